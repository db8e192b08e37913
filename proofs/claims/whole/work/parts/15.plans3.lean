theorem add1_add {x a b : Int} (hx : -1 ≤ x) (ha : 0 ≤ a) : add1 (add1 x a) b = add1 x (b + a) := by
  unfold add1
  split <;> split <;> omega
theorem ladv_le {pr d : Int → Int} {g r : Int} {la : Int → Int} (hd : ∀ j : Int, 0 ≤ j → j < 5 → 0 ≤ d j) (hpr : ∀ j : Int, 0 ≤ j → j < 5 → 0 ≤ pr j ∧ pr j ≤ 1000) (hr : r ≤ 1000) {N : Int} (hla : LA la N) : ∀ (n : Nat) (i b w l : Int), 0 ≤ i → i + n ≤ N → 0 ≤ l → ladv pr d g r la n i b w l ≤ l * 1000 := by
  intro n
  induction n with
  | zero => intro i b w l _ _ hl; show l * r ≤ l * 1000; exact Int.mul_le_mul_of_nonneg_left hr hl
  | succ n ih =>
    intro i b w l hi hN hl
    have h1 := hla i hi (by omega)
    have hdi := hd _ h1.1 h1.2
    have hpi := hpr _ h1.1 h1.2
    show cand (ladv pr d g r la n (i + 1)) pr d g b w l (la i) ≤ l * 1000
    unfold cand
    generalize (if b < la i then g - 1 else if 0 < w then w - 1 else 0) = w2
    by_cases hc : b < la i ∧ 0 < w
    · rw [if_pos hc]; omega
    · rw [if_neg hc]
      have h3 : 0 ≤ min (d (la i)) l := by omega
      have h4 := ih (i + 1) (la i) w2 (l - min (d (la i)) l) (by omega) (by omega) (by omega)
      have h5 : min (d (la i)) l * pr (la i) ≤ min (d (la i)) l * 1000 := Int.mul_le_mul_of_nonneg_left hpi.2 h3
      unfold add1
      by_cases hV : ladv pr d g r la n (i + 1) (la i) w2 (l - min (d (la i)) l) = -1
      · rw [if_pos hV]; omega
      · rw [if_neg hV]; omega

abbrev rm_X0_worthOfLadder : Room := { frames := 1, cells := 0, slots := 0, locals := 21 }
set_option maxHeartbeats 4000000 in
set_option maxRecDepth 100000 in
/-- what a ladder is worth -/
theorem mt_X0_worthOfLadder (l : Launch) (D : va_G) (cI cS cJ : ClassId) (oa : Nat) (op : Nat) (od : Nat) (ow : Nat) (ol : Nat) (pr : Int → Int) (sd : Int → Int) (wo : Int → Int) (la : Int → Int) (fw : Int) (fr : Int) (ew : Int) (gp : Int) (rm : Int) (os : Int) (ok : Int) (ml : Int) (wks : Int) (hB : PB pr sd fw fr ew gp rm os ok) (hwks : 0 ≤ wks ∧ wks ≤ 6) (hla : LA la wks) : cP l yX0_worthOfLadder wsX0_worthOfLadder rm_X0_worthOfLadder [.ref oa, iv wks] D (tyL cI cS cJ) [(oa, ob 0 [.ref op, .ref od, .ref ow, .ref ol, iv fw, iv fr, iv ew, iv gp, iv rm, iv os, iv ok, iv ml]), (op, ar cI 5 pr), (od, ar cI 5 sd), (ow, ar cI 3050 wo), (ol, ar cI 6 la)] (zI (ladv pr sd gp rm la wks.toNat 0 os (fr - fw) ok)) := by
  refine en_P (cc := cX0_worthOfLadder) (maxL := 9) (ret := (some .int)) (by decide) rfl (Nat.le_of_ble_eq_true rfl) ?_
  intro p e s m args below meth c ls hX hE hP hK hl Q hQ
  obtain ⟨hx, hb, hr, hml, hts, hown, hlocks, hnm⟩ := hX
  have hown : s.vm.findClass RX0 = some m.cls := hown
  have hl : lv_has ls 9 [(0, .ref oa), (1, iv wks)] := hl
  have inX0 : ∀ w ∈ u_ws RX0 TX0 12, w ∈ wsX0_worthOfLadder := by decide +kernel
  have w0 : (Cond.fieldLink RX0 72 RX0 "ownStep" "I").before args s = true := hts _ (by decide +kernel)
  have w1 : (Cond.fieldLink RX0 79 RX0 "ownStock" "I").before args s = true := hts _ (by decide +kernel)
  have w2 : (Cond.fieldLink RX0 66 RX0 "freeWeek" "I").before args s = true := hts _ (by decide +kernel)
  have w3 : (Cond.fieldLink RX0 56 RX0 "remnant" "I").before args s = true := hts _ (by decide +kernel)
  have w4 : (Cond.fieldLink RX0 21 RX0 "ladder" "[I").before args s = true := hts _ (by decide +kernel)
  have w5 : (Cond.fieldLink RX0 15 RX0 "demands" "[I").before args s = true := hts _ (by decide +kernel)
  have w6 : (Cond.methodLink RX0 61 Lib.Math.min.name).before args s = true := hts _ (by decide +kernel)
  have w7 : (Cond.static Lib.Math.min.name).before args s = true := hts _ (by decide +kernel)
  have w8 : (Cond.initialized "java/lang/Math").before args s = true := hts _ (by decide +kernel)
  have w9 : (Cond.code Lib.Math.min.name Lib.Math.min.code 2 (some .int)).before args s = true := hts _ (by decide +kernel)
  have w10 : (Cond.fieldLink RX0 9 RX0 "prices" "[I").before args s = true := hts _ (by decide +kernel)
  have w11 : (Cond.fieldLink RX0 40 RX0 "firstWeek" "I").before args s = true := hts _ (by decide +kernel)
  have w12 : (Cond.fieldLink RX0 52 RX0 "gap" "I").before args s = true := hts _ (by decide +kernel)
  obtain ⟨hfw, hfr, hgp, hrm, hos, hok, hpr, hsd⟩ := id hB
  have hd0 : ∀ j : Int, 0 ≤ j → j < 5 → 0 ≤ sd j := fun j a b => (hsd j a b).1
  have hp0 : ∀ j : Int, 0 ≤ j → j < 5 → 0 ≤ pr j := fun j a b => (hpr j a b).1
  refine lv_aload_n hx hb dX0_worthOfLadder_0 rfl (lv_at hl 0 rfl) ?_
  refine va_get (D := D) (ci := 0) (v := iv os) (C := RX0) (T := TX0) (N := 12) hx hb hts inX0 hown hK hP 0 rfl rfl 9 (by decide) w0 (fun _ h9 => h9) rfl dX0_worthOfLadder_1 ?_
  refine lv_istore_n (lv' := [(2, iv os), (0, .ref oa), (1, iv wks)]) hx hb dX0_worthOfLadder_4 rfl hl (by decide) rfl (fun ls hl => ?_)
  refine lv_aload_n hx hb dX0_worthOfLadder_5 rfl (lv_at hl 1 rfl) ?_
  refine va_get (D := D) (ci := 0) (v := iv ok) (C := RX0) (T := TX0) (N := 12) hx hb hts inX0 hown hK hP 0 rfl rfl 10 (by decide) w1 (fun _ h9 => h9) rfl dX0_worthOfLadder_6 ?_
  refine lv_istore_n (lv' := [(3, iv ok), (2, iv os), (0, .ref oa), (1, iv wks)]) hx hb dX0_worthOfLadder_9 rfl hl (by decide) rfl (fun ls hl => ?_)
  refine lv_aload_n hx hb dX0_worthOfLadder_10 rfl (lv_at hl 2 rfl) ?_
  refine va_get (D := D) (ci := 0) (v := iv fr) (C := RX0) (T := TX0) (N := 12) hx hb hts inX0 hown hK hP 0 rfl rfl 5 (by decide) w2 (fun _ h9 => h9) rfl dX0_worthOfLadder_11 ?_
  refine lv_istore (lv' := [(4, iv fr), (3, iv ok), (2, iv os), (0, .ref oa), (1, iv wks)]) hx hb dX0_worthOfLadder_14 hl (by decide) rfl (fun ls hl => ?_)
  refine lv_iconst (v := zI 0) hx hb dX0_worthOfLadder_16 rfl ?_
  refine lv_istore (lv' := [(5, iv 0), (4, iv fr), (3, iv ok), (2, iv os), (0, .ref oa), (1, iv wks)]) hx hb dX0_worthOfLadder_17 hl (by decide) rfl (fun ls hl => ?_)
  refine lv_iconst (v := zI 0) hx hb dX0_worthOfLadder_19 rfl ?_
  refine lv_istore (lv' := [(6, iv 0), (5, iv 0), (4, iv fr), (3, iv ok), (2, iv os), (0, .ref oa), (1, iv wks)]) hx hb dX0_worthOfLadder_20 hl (by decide) rfl (fun ls hl => ?_)
  have J_22 : ∀ (n_22 : Nat) (ii : Int) (bf : Int) (lf : Int) (fe : Int) (wv : Int) (hii : 0 ≤ ii ∧ ii ≤ wks) (hbf : 0 ≤ bf ∧ bf < 5) (hlf : 0 ≤ lf ∧ lf ≤ 60) (hfe : 0 ≤ fe ∧ fe ≤ 100) (hT : ladv pr sd gp rm la wks.toNat 0 os (fr - fw) ok = add1 (ladv pr sd gp rm la (wks - ii).toNat ii bf (max 0 (fe - (fw + ii))) lf) wv) (hm_22 : ((wks - ii).toNat) < n_22) (ls : Array Slot) (hl : lv_has ls 9 [(0, .ref oa), (1, iv wks), (2, iv bf), (3, iv lf), (4, iv fe), (5, iv wv), (6, iv ii)]), W p l e rm_X0_worthOfLadder s m args below meth c s.heap [] 0 0 Q (F0 m 22 ls []) := by
    intro n_22
    induction n_22 with
    | zero => intro ii bf lf fe wv hii hbf hlf hfe hT hm_22 ls hl; exact absurd hm_22 (Nat.not_lt_zero _)
    | succ n_22 ih_22 =>
      intro ii bf lf fe wv hii hbf hlf hfe hT hm_22 ls hl
      refine lv_iload hx hb dX0_worthOfLadder_22 (lv_at hl 6 rfl) ?_
      refine lv_iload_n hx hb dX0_worthOfLadder_24 rfl (lv_at hl 1 rfl) ?_
      refine i_icmp_ge (tgt := 113) hx hb ⟨by omega, by omega⟩ ⟨by omega, by omega⟩ dX0_worthOfLadder_25 (by decide) (fun c_1 => ?_) (fun c_1 => ?_)
      · skip
        refine lv_iload hx hb dX0_worthOfLadder_113 (lv_at hl 5 rfl) ?_
        refine lv_iload_n hx hb dX0_worthOfLadder_115 rfl (lv_at hl 3 rfl) ?_
        refine lv_aload_n hx hb dX0_worthOfLadder_116 rfl (lv_at hl 0 rfl) ?_
        refine va_get (D := D) (ci := 0) (v := iv rm) (C := RX0) (T := TX0) (N := 12) hx hb hts inX0 hown hK hP 0 rfl rfl 8 (by decide) w3 (fun _ h9 => h9) rfl dX0_worthOfLadder_117 ?_
        refine i_imul hx hb dX0_worthOfLadder_120 ?_
        refine i_iadd hx hb dX0_worthOfLadder_121 ?_
        subst hQ
        exact r_P hx hb hr hlocks (by rfl) dX0_worthOfLadder_122 (by rw [hT, show (wks - ii).toNat = 0 by omega]; have h9 : 0 ≤ lf * rm := Int.mul_nonneg hlf.1 hrm.1; congr 1; show wv + lf * rm = add1 (lf * rm) wv; unfold add1; rw [if_neg (by omega)]; omega)
      · skip
        have hlt := hla ii (by omega) (by omega)
        refine lv_aload_n hx hb dX0_worthOfLadder_28 rfl (lv_at hl 0 rfl) ?_
        refine va_get (D := D) (ci := 0) (v := .ref ol) (C := RX0) (T := TX0) (N := 12) hx hb hts inX0 hown hK hP 0 rfl rfl 3 (by decide) w4 (fun _ h9 => h9) rfl dX0_worthOfLadder_29 ?_
        refine lv_iload hx hb dX0_worthOfLadder_32 (lv_at hl 6 rfl) ?_
        refine i_iald hx hb hK hP 4 0 rfl rfl (by omega) (by omega) (by decide) dX0_worthOfLadder_34 ?_
        refine lv_istore (lv' := [(7, iv (la ii)), (0, .ref oa), (1, iv wks), (2, iv bf), (3, iv lf), (4, iv fe), (5, iv wv), (6, iv ii)]) hx hb dX0_worthOfLadder_35 hl (by decide) rfl (fun ls hl => ?_)
        refine lv_iload hx hb dX0_worthOfLadder_37 (lv_at hl 0 rfl) ?_
        refine lv_iload_n hx hb dX0_worthOfLadder_39 rfl (lv_at hl 3 rfl) ?_
        refine i_icmp_le (tgt := 71) hx hb ⟨by omega, by omega⟩ ⟨by omega, by omega⟩ dX0_worthOfLadder_40 (by decide) (fun c_2 => ?_) (fun c_2 => ?_)
        · skip
          have hdi := hsd (la ii) (by omega) (by omega)
          have hpi := hpr (la ii) (by omega) (by omega)
          have hT2 : ladv pr sd gp rm la wks.toNat 0 os (fr - fw) ok = add1 (ladv pr sd gp rm la (wks - (ii + 1)).toNat (ii + 1) (la ii) (max 0 (fe - (fw + (ii + 1)))) (lf - min lf (sd (la ii)))) (wv + min lf (sd (la ii)) * pr (la ii)) := by
            have e1 : (wks - ii).toNat = (wks - (ii + 1)).toNat + 1 := by omega
            have hw2 : (if bf < la ii then gp - 1 else if 0 < max 0 (fe - (fw + ii)) then max 0 (fe - (fw + ii)) - 1 else 0) = max 0 (fe - (fw + (ii + 1))) := by
              rw [if_neg (by omega)]; split <;> omega
            rw [hT, e1]
            show add1 (cand (ladv pr sd gp rm la (wks - (ii + 1)).toNat (ii + 1)) pr sd gp bf (max 0 (fe - (fw + ii))) lf (la ii)) wv = _
            unfold cand
            rw [if_neg (show ¬ (bf < la ii ∧ 0 < max 0 (fe - (fw + ii))) by omega), hw2, show min (sd (la ii)) lf = min lf (sd (la ii)) by omega]
            exact add1_add (ladv_ge hd0 hp0 hrm.1 hla _ _ _ _ _ (by omega) (by omega) (by omega)) (Int.mul_nonneg (by omega) hpi.1)
          refine lv_iload_n hx hb dX0_worthOfLadder_71 rfl (lv_at hl 4 rfl) ?_
          refine lv_aload_n hx hb dX0_worthOfLadder_72 rfl (lv_at hl 1 rfl) ?_
          refine va_get (D := D) (ci := 0) (v := .ref od) (C := RX0) (T := TX0) (N := 12) hx hb hts inX0 hown hK hP 0 rfl rfl 1 (by decide) w5 (fun _ h9 => h9) rfl dX0_worthOfLadder_73 ?_
          refine lv_iload hx hb dX0_worthOfLadder_76 (lv_at hl 0 rfl) ?_
          refine i_iald hx hb hK hP 2 0 rfl rfl (by omega) (by omega) (by decide) dX0_worthOfLadder_78 ?_
          refine i_min hx hb (hml.trans hl.1.symm) hown w6 w7 w8 w9 ⟨Nat.le_of_ble_eq_true rfl, Nat.le_of_ble_eq_true rfl, Nat.le_of_ble_eq_true rfl, Nat.le_of_ble_eq_true rfl⟩ (Nat.le_of_ble_eq_true rfl) ⟨by omega, by omega⟩ ⟨by omega, by omega⟩ dX0_worthOfLadder_79 ?_
          refine lv_istore (lv' := [(8, iv (min lf (sd (la ii)))), (7, iv (la ii)), (0, .ref oa), (1, iv wks), (2, iv bf), (3, iv lf), (4, iv fe), (5, iv wv), (6, iv ii)]) hx hb dX0_worthOfLadder_82 hl (by decide) rfl (fun ls hl => ?_)
          refine lv_iload hx hb dX0_worthOfLadder_84 (lv_at hl 7 rfl) ?_
          refine lv_iload hx hb dX0_worthOfLadder_86 (lv_at hl 0 rfl) ?_
          refine lv_aload_n hx hb dX0_worthOfLadder_88 rfl (lv_at hl 2 rfl) ?_
          refine va_get (D := D) (ci := 0) (v := .ref op) (C := RX0) (T := TX0) (N := 12) hx hb hts inX0 hown hK hP 0 rfl rfl 0 (by decide) w10 (fun _ h9 => h9) rfl dX0_worthOfLadder_89 ?_
          refine lv_iload hx hb dX0_worthOfLadder_92 (lv_at hl 1 rfl) ?_
          refine i_iald hx hb hK hP 1 0 rfl rfl (by omega) (by omega) (by decide) dX0_worthOfLadder_94 ?_
          refine i_imul hx hb dX0_worthOfLadder_95 ?_
          refine i_iadd hx hb dX0_worthOfLadder_96 ?_
          refine lv_istore (lv' := [(5, iv (wv + ((min lf (sd (la ii))) * (pr (la ii))))), (8, iv (min lf (sd (la ii)))), (7, iv (la ii)), (0, .ref oa), (1, iv wks), (2, iv bf), (3, iv lf), (4, iv fe), (6, iv ii)]) hx hb dX0_worthOfLadder_97 hl (by decide) rfl (fun ls hl => ?_)
          refine lv_iload_n hx hb dX0_worthOfLadder_99 rfl (lv_at hl 6 rfl) ?_
          refine lv_iload hx hb dX0_worthOfLadder_100 (lv_at hl 1 rfl) ?_
          refine i_isub hx hb dX0_worthOfLadder_102 ?_
          refine lv_istore_n (lv' := [(3, iv (lf - (min lf (sd (la ii))))), (5, iv (wv + ((min lf (sd (la ii))) * (pr (la ii))))), (8, iv (min lf (sd (la ii)))), (7, iv (la ii)), (0, .ref oa), (1, iv wks), (2, iv bf), (4, iv fe), (6, iv ii)]) hx hb dX0_worthOfLadder_103 rfl hl (by decide) rfl (fun ls hl => ?_)
          refine lv_iload hx hb dX0_worthOfLadder_104 (lv_at hl 3 rfl) ?_
          refine lv_istore_n (lv' := [(2, iv (la ii)), (3, iv (lf - (min lf (sd (la ii))))), (5, iv (wv + ((min lf (sd (la ii))) * (pr (la ii))))), (8, iv (min lf (sd (la ii)))), (7, iv (la ii)), (0, .ref oa), (1, iv wks), (4, iv fe), (6, iv ii)]) hx hb dX0_worthOfLadder_106 rfl hl (by decide) rfl (fun ls hl => ?_)
          refine i_iinc (n := 1) (lv' := [(6, iv (ii + 1)), (2, iv (la ii)), (3, iv (lf - (min lf (sd (la ii))))), (5, iv (wv + ((min lf (sd (la ii))) * (pr (la ii))))), (8, iv (min lf (sd (la ii)))), (7, iv (la ii)), (0, .ref oa), (1, iv wks), (4, iv fe)]) hx hb dX0_worthOfLadder_107 hl (k := 8) rfl (by decide) rfl (fun ls hl => ?_)
          refine lv_goto (tgt := 22) hx hb dX0_worthOfLadder_110 (by decide) ?_
          exact ih_22 (ii + 1) (la ii) (lf - (min lf (sd (la ii)))) fe (wv + ((min lf (sd (la ii))) * (pr (la ii)))) (by omega) (by omega) (by omega) (by omega) (hT2) (by omega) ls (lv_sub hl [6, 7, 1, 2, 8, 3, 0] rfl)
        · skip
          have hdi := hsd (la ii) (by omega) (by omega)
          have hpi := hpr (la ii) (by omega) (by omega)
          refine lv_aload_n hx hb dX0_worthOfLadder_43 rfl (lv_at hl 1 rfl) ?_
          refine va_get (D := D) (ci := 0) (v := iv fw) (C := RX0) (T := TX0) (N := 12) hx hb hts inX0 hown hK hP 0 rfl rfl 4 (by decide) w11 (fun _ h9 => h9) rfl dX0_worthOfLadder_44 ?_
          refine lv_iload hx hb dX0_worthOfLadder_47 (lv_at hl 7 rfl) ?_
          refine i_iadd hx hb dX0_worthOfLadder_49 ?_
          refine lv_iload hx hb dX0_worthOfLadder_50 (lv_at hl 5 rfl) ?_
          refine i_icmp_ge (tgt := 57) hx hb ⟨by omega, by omega⟩ ⟨by omega, by omega⟩ dX0_worthOfLadder_52 (by decide) (fun c_3 => ?_) (fun c_3 => ?_)
          · skip
            have hT2 : ladv pr sd gp rm la wks.toNat 0 os (fr - fw) ok = add1 (ladv pr sd gp rm la (wks - (ii + 1)).toNat (ii + 1) (la ii) (max 0 ((fw + ii + gp) - (fw + (ii + 1)))) (lf - min lf (sd (la ii)))) (wv + min lf (sd (la ii)) * pr (la ii)) := by
              have e1 : (wks - ii).toNat = (wks - (ii + 1)).toNat + 1 := by omega
              have hw2 : (if bf < la ii then gp - 1 else if 0 < max 0 (fe - (fw + ii)) then max 0 (fe - (fw + ii)) - 1 else 0) = max 0 ((fw + ii + gp) - (fw + (ii + 1))) := by
                rw [if_pos (by omega)]; omega
              rw [hT, e1]
              show add1 (cand (ladv pr sd gp rm la (wks - (ii + 1)).toNat (ii + 1)) pr sd gp bf (max 0 (fe - (fw + ii))) lf (la ii)) wv = _
              unfold cand
              rw [if_neg (show ¬ (bf < la ii ∧ 0 < max 0 (fe - (fw + ii))) by omega), hw2, show min (sd (la ii)) lf = min lf (sd (la ii)) by omega]
              exact add1_add (ladv_ge hd0 hp0 hrm.1 hla _ _ _ _ _ (by omega) (by omega) (by omega)) (Int.mul_nonneg (by omega) hpi.1)
            refine lv_aload_n hx hb dX0_worthOfLadder_57 rfl (lv_at hl 1 rfl) ?_
            refine va_get (D := D) (ci := 0) (v := iv fw) (C := RX0) (T := TX0) (N := 12) hx hb hts inX0 hown hK hP 0 rfl rfl 4 (by decide) w11 (fun _ h9 => h9) rfl dX0_worthOfLadder_58 ?_
            refine lv_iload hx hb dX0_worthOfLadder_61 (lv_at hl 7 rfl) ?_
            refine i_iadd hx hb dX0_worthOfLadder_63 ?_
            refine lv_aload_n hx hb dX0_worthOfLadder_64 rfl (lv_at hl 1 rfl) ?_
            refine va_get (D := D) (ci := 0) (v := iv gp) (C := RX0) (T := TX0) (N := 12) hx hb hts inX0 hown hK hP 0 rfl rfl 7 (by decide) w12 (fun _ h9 => h9) rfl dX0_worthOfLadder_65 ?_
            refine i_iadd hx hb dX0_worthOfLadder_68 ?_
            refine lv_istore (lv' := [(4, iv ((fw + ii) + gp)), (7, iv (la ii)), (0, .ref oa), (1, iv wks), (2, iv bf), (3, iv lf), (5, iv wv), (6, iv ii)]) hx hb dX0_worthOfLadder_69 hl (by decide) rfl (fun ls hl => ?_)
            refine lv_iload_n hx hb dX0_worthOfLadder_71 rfl (lv_at hl 5 rfl) ?_
            refine lv_aload_n hx hb dX0_worthOfLadder_72 rfl (lv_at hl 2 rfl) ?_
            refine va_get (D := D) (ci := 0) (v := .ref od) (C := RX0) (T := TX0) (N := 12) hx hb hts inX0 hown hK hP 0 rfl rfl 1 (by decide) w5 (fun _ h9 => h9) rfl dX0_worthOfLadder_73 ?_
            refine lv_iload hx hb dX0_worthOfLadder_76 (lv_at hl 1 rfl) ?_
            refine i_iald hx hb hK hP 2 0 rfl rfl (by omega) (by omega) (by decide) dX0_worthOfLadder_78 ?_
            refine i_min hx hb (hml.trans hl.1.symm) hown w6 w7 w8 w9 ⟨Nat.le_of_ble_eq_true rfl, Nat.le_of_ble_eq_true rfl, Nat.le_of_ble_eq_true rfl, Nat.le_of_ble_eq_true rfl⟩ (Nat.le_of_ble_eq_true rfl) ⟨by omega, by omega⟩ ⟨by omega, by omega⟩ dX0_worthOfLadder_79 ?_
            refine lv_istore (lv' := [(8, iv (min lf (sd (la ii)))), (4, iv ((fw + ii) + gp)), (7, iv (la ii)), (0, .ref oa), (1, iv wks), (2, iv bf), (3, iv lf), (5, iv wv), (6, iv ii)]) hx hb dX0_worthOfLadder_82 hl (by decide) rfl (fun ls hl => ?_)
            refine lv_iload hx hb dX0_worthOfLadder_84 (lv_at hl 7 rfl) ?_
            refine lv_iload hx hb dX0_worthOfLadder_86 (lv_at hl 0 rfl) ?_
            refine lv_aload_n hx hb dX0_worthOfLadder_88 rfl (lv_at hl 3 rfl) ?_
            refine va_get (D := D) (ci := 0) (v := .ref op) (C := RX0) (T := TX0) (N := 12) hx hb hts inX0 hown hK hP 0 rfl rfl 0 (by decide) w10 (fun _ h9 => h9) rfl dX0_worthOfLadder_89 ?_
            refine lv_iload hx hb dX0_worthOfLadder_92 (lv_at hl 2 rfl) ?_
            refine i_iald hx hb hK hP 1 0 rfl rfl (by omega) (by omega) (by decide) dX0_worthOfLadder_94 ?_
            refine i_imul hx hb dX0_worthOfLadder_95 ?_
            refine i_iadd hx hb dX0_worthOfLadder_96 ?_
            refine lv_istore (lv' := [(5, iv (wv + ((min lf (sd (la ii))) * (pr (la ii))))), (8, iv (min lf (sd (la ii)))), (4, iv ((fw + ii) + gp)), (7, iv (la ii)), (0, .ref oa), (1, iv wks), (2, iv bf), (3, iv lf), (6, iv ii)]) hx hb dX0_worthOfLadder_97 hl (by decide) rfl (fun ls hl => ?_)
            refine lv_iload_n hx hb dX0_worthOfLadder_99 rfl (lv_at hl 7 rfl) ?_
            refine lv_iload hx hb dX0_worthOfLadder_100 (lv_at hl 1 rfl) ?_
            refine i_isub hx hb dX0_worthOfLadder_102 ?_
            refine lv_istore_n (lv' := [(3, iv (lf - (min lf (sd (la ii))))), (5, iv (wv + ((min lf (sd (la ii))) * (pr (la ii))))), (8, iv (min lf (sd (la ii)))), (4, iv ((fw + ii) + gp)), (7, iv (la ii)), (0, .ref oa), (1, iv wks), (2, iv bf), (6, iv ii)]) hx hb dX0_worthOfLadder_103 rfl hl (by decide) rfl (fun ls hl => ?_)
            refine lv_iload hx hb dX0_worthOfLadder_104 (lv_at hl 4 rfl) ?_
            refine lv_istore_n (lv' := [(2, iv (la ii)), (3, iv (lf - (min lf (sd (la ii))))), (5, iv (wv + ((min lf (sd (la ii))) * (pr (la ii))))), (8, iv (min lf (sd (la ii)))), (4, iv ((fw + ii) + gp)), (7, iv (la ii)), (0, .ref oa), (1, iv wks), (6, iv ii)]) hx hb dX0_worthOfLadder_106 rfl hl (by decide) rfl (fun ls hl => ?_)
            refine i_iinc (n := 1) (lv' := [(6, iv (ii + 1)), (2, iv (la ii)), (3, iv (lf - (min lf (sd (la ii))))), (5, iv (wv + ((min lf (sd (la ii))) * (pr (la ii))))), (8, iv (min lf (sd (la ii)))), (4, iv ((fw + ii) + gp)), (7, iv (la ii)), (0, .ref oa), (1, iv wks)]) hx hb dX0_worthOfLadder_107 hl (k := 8) rfl (by decide) rfl (fun ls hl => ?_)
            refine lv_goto (tgt := 22) hx hb dX0_worthOfLadder_110 (by decide) ?_
            exact ih_22 (ii + 1) (la ii) (lf - (min lf (sd (la ii)))) ((fw + ii) + gp) (wv + ((min lf (sd (la ii))) * (pr (la ii)))) (by omega) (by omega) (by omega) (by omega) (hT2) (by omega) ls (lv_sub hl [7, 8, 1, 2, 5, 3, 0] rfl)
          · skip
            have hT3 : ladv pr sd gp rm la wks.toNat 0 os (fr - fw) ok = -1 := by
              rw [hT, show (wks - ii).toNat = (wks - (ii + 1)).toNat + 1 by omega]
              show add1 (cand (ladv pr sd gp rm la (wks - (ii + 1)).toNat (ii + 1)) pr sd gp bf (max 0 (fe - (fw + ii))) lf (la ii)) wv = _
              unfold cand
              rw [if_pos (show bf < la ii ∧ 0 < max 0 (fe - (fw + ii)) by omega)]
              rfl
            refine lv_iconst (v := zI (-1)) hx hb dX0_worthOfLadder_55 rfl ?_
            subst hQ
            exact r_P hx hb hr hlocks (by rfl) dX0_worthOfLadder_56 (by rw [hT3])
  exact J_22 _ 0 os ok fr 0 (by omega) (by omega) (by omega) (by omega) (by rw [show (wks - 0).toNat = wks.toNat by omega, show max 0 (fr - (fw + 0)) = fr - fw by omega]; unfold add1; split <;> omega) (Nat.lt_succ_self _) ls (lv_sub hl [5, 6, 4, 3, 2, 1, 0] rfl)

abbrev rm_X0_greatestWorthByAll : Room := { frames := 2, cells := 0, slots := 0, locals := 49 }
set_option maxHeartbeats 4000000 in
set_option maxRecDepth 100000 in
/-- the greatest worth, by all ladders -/
theorem mt_X0_greatestWorthByAll (l : Launch) (D : va_G) (cI cS cJ : ClassId) (oa : Nat) (op : Nat) (od : Nat) (ow : Nat) (ol : Nat) (pr : Int → Int) (sd : Int → Int) (wo : Int → Int) (la : Int → Int) (fw : Int) (fr : Int) (ew : Int) (gp : Int) (rm : Int) (os : Int) (ok : Int) (ml : Int) (hB : PB pr sd fw fr ew gp rm os ok) (hw6 : ew - fw ≤ 6) : cM l yX0_greatestWorthByAll wsX0_greatestWorthByAll rm_X0_greatestWorthByAll [.ref oa] D (tyL cI cS cJ) [(oa, ob 0 [.ref op, .ref od, .ref ow, .ref ol, iv fw, iv fr, iv ew, iv gp, iv rm, iv os, iv ok, iv ml]), (op, ar cI 5 pr), (od, ar cI 5 sd), (ow, ar cI 3050 wo), (ol, ar cI 6 la)] (fun r_ w_ => ∃ la9 : Int → Int, r_ = some (iv (pv pr sd gp rm 60 (ew - fw).toNat os (fr - fw) ok)) ∧ w_ = [(oa, ob 0 [.ref op, .ref od, .ref ow, .ref ol, iv fw, iv fr, iv ew, iv gp, iv rm, iv os, iv ok, iv ml]), (op, ar cI 5 pr), (od, ar cI 5 sd), (ow, ar cI 3050 wo), (ol, ar cI 6 la9)]) 0 0 := by
  refine en_M (cc := cX0_greatestWorthByAll) (maxL := 5) (ret := (some .int)) (by decide) rfl (Nat.le_of_ble_eq_true rfl) ?_
  intro p e s m args below meth c ls A hX hE hP hK hD hS hA hl Q hQ
  obtain ⟨hx, hb, hr, hml, hts, hown, hlocks, hnm⟩ := hX
  have hown : s.vm.findClass RX0 = some m.cls := hown
  have hl : lv_has ls 5 [(0, .ref oa)] := hl
  have inX0 : ∀ w ∈ u_ws RX0 TX0 12, w ∈ wsX0_greatestWorthByAll := by decide +kernel
  have w0 : (Cond.fieldLink RX0 46 RX0 "endWeek" "I").before args s = true := hts _ (by decide +kernel)
  have w1 : (Cond.fieldLink RX0 40 RX0 "firstWeek" "I").before args s = true := hts _ (by decide +kernel)
  have w2 : (Cond.methodLink RX0 61 Lib.Math.min.name).before args s = true := hts _ (by decide +kernel)
  have w3 : (Cond.static Lib.Math.min.name).before args s = true := hts _ (by decide +kernel)
  have w4 : (Cond.initialized "java/lang/Math").before args s = true := hts _ (by decide +kernel)
  have w5 : (Cond.code Lib.Math.min.name Lib.Math.min.code 2 (some .int)).before args s = true := hts _ (by decide +kernel)
  have w6 : (Cond.constant RX0 112 (1000000)).before args s = true := hts _ (by decide +kernel)
  have w7 : (Cond.methodLink RX0 106 Lib.Math.max.name).before args s = true := hts _ (by decide +kernel)
  have w8 : (Cond.static Lib.Math.max.name).before args s = true := hts _ (by decide +kernel)
  have w9 : (Cond.code Lib.Math.max.name Lib.Math.max.code 2 (some .int)).before args s = true := hts _ (by decide +kernel)
  have w10 : (Cond.fieldLink RX0 21 RX0 "ladder" "[I").before args s = true := hts _ (by decide +kernel)
  have w11 : (Cond.fieldLink RX0 72 RX0 "ownStep" "I").before args s = true := hts _ (by decide +kernel)
  obtain ⟨hfw, hfr, hgp, hrm, hos, hok, hpr, hsd⟩ := id hB
  have hd0 : ∀ j : Int, 0 ≤ j → j < 5 → 0 ≤ sd j := fun j a b => (hsd j a b).1
  have hp0 : ∀ j : Int, 0 ≤ j → j < 5 → 0 ≤ pr j := fun j a b => (hpr j a b).1
  refine lv_aload_n hx hb dX0_greatestWorthByAll_0 rfl (lv_at hl 0 rfl) ?_
  refine va_get (D := D) (ci := 0) (v := iv ew) (C := RX0) (T := TX0) (N := 12) hx hb hts inX0 hown hK hP 0 rfl rfl 6 (by decide) w0 (fun _ h9 => h9) rfl dX0_greatestWorthByAll_1 ?_
  refine lv_aload_n hx hb dX0_greatestWorthByAll_4 rfl (lv_at hl 0 rfl) ?_
  refine va_get (D := D) (ci := 0) (v := iv fw) (C := RX0) (T := TX0) (N := 12) hx hb hts inX0 hown hK hP 0 rfl rfl 4 (by decide) w1 (fun _ h9 => h9) rfl dX0_greatestWorthByAll_5 ?_
  refine i_isub hx hb dX0_greatestWorthByAll_8 ?_
  refine lv_bipush (v := zI 6) hx hb dX0_greatestWorthByAll_9 (by decide) ?_
  refine i_min hx hb (hml.trans hl.1.symm) hown w2 w3 w4 w5 ⟨Nat.le_of_ble_eq_true rfl, Nat.le_of_ble_eq_true rfl, Nat.le_of_ble_eq_true rfl, Nat.le_of_ble_eq_true rfl⟩ (Nat.le_of_ble_eq_true rfl) ⟨by omega, by omega⟩ ⟨by decide, by decide⟩ dX0_greatestWorthByAll_11 ?_
  refine i_name (fun wks hwks => ?_)
  have hw7 : wks = ew - fw := by omega
  refine lv_istore_n (lv' := [(1, iv wks), (0, .ref oa)]) hx hb dX0_greatestWorthByAll_14 rfl hl (by decide) rfl (fun ls hl => ?_)
  refine lv_iconst (v := zI 0) hx hb dX0_greatestWorthByAll_15 rfl ?_
  refine lv_istore_n (lv' := [(2, iv 0), (1, iv wks), (0, .ref oa)]) hx hb dX0_greatestWorthByAll_16 rfl hl (by decide) rfl (fun ls hl => ?_)
  have J_17 : ∀ (n_17 : Nat) (ii : Int) (la1 : Int → Int) (hii : 0 ≤ ii ∧ ii ≤ wks) (hl1 : ∀ j : Int, 0 ≤ j → j < ii → la1 j = os) (hm_17 : ((wks - ii).toNat) < n_17) (H : Heap) (locs : List Loc) (hP : va_P D vwCl [(oa, ob 0 [.ref op, .ref od, .ref ow, .ref ol, iv fw, iv fr, iv ew, iv gp, iv rm, iv os, iv ok, iv ml]), (op, ar cI 5 pr), (od, ar cI 5 sd), (ow, ar cI 3050 wo), (ol, ar cI 6 la1)] H) (hD : va_D A [(oa, ob 0 [.ref op, .ref od, .ref ow, .ref ol, iv fw, iv fr, iv ew, iv gp, iv rm, iv os, iv ok, iv ml]), (op, ar cI 5 pr), (od, ar cI 5 sd), (ow, ar cI 3050 wo), (ol, ar cI 6 la1)]) (hS : va_S A s.heap H locs) (ls : Array Slot) (hl : lv_has ls 5 [(0, .ref oa), (1, iv wks), (2, iv ii)]), W p l e rm_X0_greatestWorthByAll s m args below meth c H locs 0 0 Q (F0 m 17 ls []) := by
    intro n_17
    induction n_17 with
    | zero => intro ii la1 hii hl1 hm_17 H locs hP hD hS ls hl; exact absurd hm_17 (Nat.not_lt_zero _)
    | succ n_17 ih_17 =>
      intro ii la1 hii hl1 hm_17 H locs hP hD hS ls hl
      refine lv_iload_n hx hb dX0_greatestWorthByAll_17 rfl (lv_at hl 2 rfl) ?_
      refine lv_iload_n hx hb dX0_greatestWorthByAll_18 rfl (lv_at hl 1 rfl) ?_
      refine i_icmp_ge (tgt := 38) hx hb ⟨by omega, by omega⟩ ⟨by omega, by omega⟩ dX0_greatestWorthByAll_19 (by decide) (fun c_1 => ?_) (fun c_1 => ?_)
      · skip
        have hle : LA la1 wks := fun j q1 q2 => by rw [hl1 j q1 (by omega)]; exact hos
        have hV1 : ladg pr sd gp rm la1 wks.toNat 0 os (fr - fw) ok = pv pr sd gp rm 60 (ew - fw).toNat os (fr - fw) ok := by rw [ladg_first (pr := pr) (d := sd) (g := gp) (r := rm) hd0 hp0 hrm.1 (b := os) hos.1 hos.2 wks.toNat 0 (fr - fw) ok (la := la1) (fun j q1 q2 => hl1 j q1 (by omega)) (by omega) (by omega), hw7]
        have hV2 := pv_ge (g := gp) (ml := 60) hd0 hp0 hrm.1 (ew - fw).toNat os (fr - fw) ok (by omega)
        refine lv_iconst (v := zI (-1)) hx hb dX0_greatestWorthByAll_38 rfl ?_
        refine lv_istore_n (lv' := [(2, iv (-1)), (0, .ref oa), (1, iv wks)]) hx hb dX0_greatestWorthByAll_39 rfl hl (by decide) rfl (fun ls hl => ?_)
        refine lv_iconst (v := zI 1) hx hb dX0_greatestWorthByAll_40 rfl ?_
        refine lv_istore_n (lv' := [(3, iv 1), (2, iv (-1)), (0, .ref oa), (1, iv wks)]) hx hb dX0_greatestWorthByAll_41 rfl hl (by decide) rfl (fun ls hl => ?_)
        refine lv_iconst (v := zI 0) hx hb dX0_greatestWorthByAll_42 rfl ?_
        refine lv_istore (lv' := [(4, iv 0), (3, iv 1), (2, iv (-1)), (0, .ref oa), (1, iv wks)]) hx hb dX0_greatestWorthByAll_43 hl (by decide) rfl (fun ls hl => ?_)
        have J_45 : ∀ (n_45 : Nat) (gr : Int) (mo : Int) (tr : Int) (la1 : Int → Int) (hmo : mo = 0 ∨ mo = 1) (hgr : -1 ≤ gr ∧ gr ≤ 60000) (hla : LA la1 wks) (htr : 0 ≤ tr ∧ tr ≤ 15626) (h1 : mo = 1 → pv pr sd gp rm 60 (ew - fw).toNat os (fr - fw) ok = max gr (ladg pr sd gp rm la1 wks.toNat 0 os (fr - fw) ok) ∧ tr ≤ ladn la1 wks.toNat 0) (h0 : mo = 0 → pv pr sd gp rm 60 (ew - fw).toNat os (fr - fw) ok = gr) (hm_45 : ((if mo = 0 then 0 else 20000 - tr).toNat) < n_45) (H : Heap) (locs : List Loc) (hP : va_P D vwCl [(oa, ob 0 [.ref op, .ref od, .ref ow, .ref ol, iv fw, iv fr, iv ew, iv gp, iv rm, iv os, iv ok, iv ml]), (op, ar cI 5 pr), (od, ar cI 5 sd), (ow, ar cI 3050 wo), (ol, ar cI 6 la1)] H) (hD : va_D A [(oa, ob 0 [.ref op, .ref od, .ref ow, .ref ol, iv fw, iv fr, iv ew, iv gp, iv rm, iv os, iv ok, iv ml]), (op, ar cI 5 pr), (od, ar cI 5 sd), (ow, ar cI 3050 wo), (ol, ar cI 6 la1)]) (hS : va_S A s.heap H locs) (ls : Array Slot) (hl : lv_has ls 5 [(0, .ref oa), (1, iv wks), (2, iv gr), (3, iv mo), (4, iv tr)]), W p l e rm_X0_greatestWorthByAll s m args below meth c H locs 0 0 Q (F0 m 45 ls []) := by
          intro n_45
          induction n_45 with
          | zero => intro gr mo tr la1 hmo hgr hla htr h1 h0 hm_45 H locs hP hD hS ls hl; exact absurd hm_45 (Nat.not_lt_zero _)
          | succ n_45 ih_45 =>
            intro gr mo tr la1 hmo hgr hla htr h1 h0 hm_45 H locs hP hD hS ls hl
            have hn9 : ladn la1 wks.toNat 0 < 15625 := by
              have h9 := (ladn_lt hla wks.toNat 0 (by omega) (by omega)).2
              have h8 : (5 : Int) ^ wks.toNat ≤ 5 ^ 6 := by
                rcases (show wks.toNat = 0 ∨ wks.toNat = 1 ∨ wks.toNat = 2 ∨ wks.toNat = 3 ∨ wks.toNat = 4 ∨ wks.toNat = 5 ∨ wks.toNat = 6 by omega) with h | h | h | h | h | h | h <;> rw [h] <;> decide
              have h7 : (5 : Int) ^ 6 = 15625 := by decide
              omega
            refine lv_iload_n hx hb dX0_greatestWorthByAll_45 rfl (lv_at hl 3 rfl) ?_
            refine i_if_eq (tgt := 78) hx hb ⟨by omega, by omega⟩ dX0_greatestWorthByAll_46 (by decide) (fun c_2 => ?_) (fun c_2 => ?_)
            · skip
              refine lv_iload_n hx hb dX0_greatestWorthByAll_78 rfl (lv_at hl 2 rfl) ?_
              refine i_eqz (y := pv pr sd gp rm 60 (ew - fw).toNat os (fr - fw) ok) (by exact (h0 (by omega)).symm) ?_
              subst hQ
              exact r_Mi hx hb hr hlocks (by first | rfl | decide) dX0_greatestWorthByAll_79 hS (hP.sub (ws' := [(oa, ob 0 [.ref op, .ref od, .ref ow, .ref ol, iv fw, iv fr, iv ew, iv gp, iv rm, iv os, iv ok, iv ml]), (op, ar cI 5 pr), (od, ar cI 5 sd), (ow, ar cI 3050 wo), (ol, ar cI 6 la1)]) [0, 1, 2, 3, 4] rfl) (hD.sub (ws' := [(oa, ob 0 [.ref op, .ref od, .ref ow, .ref ol, iv fw, iv fr, iv ew, iv gp, iv rm, iv os, iv ok, iv ml]), (op, ar cI 5 pr), (od, ar cI 5 sd), (ow, ar cI 3050 wo), (ol, ar cI 6 la1)]) [0, 1, 2, 3, 4] (by decide) rfl) (⟨la1, rfl, rfl⟩) (Nat.le_of_ble_eq_true rfl) (Nat.le_of_ble_eq_true rfl)
            · skip
              refine lv_iload hx hb dX0_greatestWorthByAll_49 (lv_at hl 4 rfl) ?_
              refine lv_ldc (v := 1000000) hx hb hown w6 dX0_greatestWorthByAll_51 ?_
              refine i_eqi (y := zI 1000000) (by decide) ?_
              refine i_icmp_ge (tgt := 78) hx hb ⟨by omega, by omega⟩ ⟨by decide, by decide⟩ dX0_greatestWorthByAll_53 (by decide) (fun c_3 => absurd c_3 (by omega)) (fun c_3 => ?_)
              refine lv_iload_n hx hb dX0_greatestWorthByAll_56 rfl (lv_at hl 2 rfl) ?_
              refine lv_aload_n hx hb dX0_greatestWorthByAll_57 rfl (lv_at hl 0 rfl) ?_
              refine lv_iload_n hx hb dX0_greatestWorthByAll_58 rfl (lv_at hl 1 rfl) ?_
              refine ms_P (va_runV (As := [iv wks]) (rest := [iv gr]) ⟨hx, hb, hml, hown, hts⟩ (mt_X0_worthOfLadder l D cI cS cJ oa op od ow ol pr sd wo la1 fw fr ew gp rm os ok ml wks (hB) (by omega) (hla)) (cwV 1 hts gX0_greatestWorthByAll_X0_worthOfLadder rfl rfl rfl (by decide +kernel) ⟨Nat.le_of_ble_eq_true rfl, Nat.le_of_ble_eq_true rfl⟩) (pc_V (ci := 0) (q0 := 0) hK (hP.sub (ws' := [(oa, ob 0 [.ref op, .ref od, .ref ow, .ref ol, iv fw, iv fr, iv ew, iv gp, iv rm, iv os, iv ok, iv ml]), (op, ar cI 5 pr), (od, ar cI 5 sd), (ow, ar cI 3050 wo), (ol, ar cI 6 la1)]) [0, 1, 2, 3, 4] rfl) rfl rfl (pcP_S hE hK (hP.sub (ws' := [(oa, ob 0 [.ref op, .ref od, .ref ow, .ref ol, iv fw, iv fr, iv ew, iv gp, iv rm, iv os, iv ok, iv ml]), (op, ar cI 5 pr), (od, ar cI 5 sd), (ow, ar cI 3050 wo), (ol, ar cI 6 la1)]) [0, 1, 2, 3, 4] rfl))) rfl rfl hl.1 rfl (lv_room (Nat.le_of_ble_eq_true rfl)) dX0_greatestWorthByAll_59 ⟨Nat.le_of_ble_eq_true rfl, Nat.le_of_ble_eq_true rfl⟩) ?_
              refine i_name (fun lv9 hlv9 => ?_)
              have hlb : -1 ≤ lv9 ∧ lv9 ≤ 60000 := by
                rw [hlv9]
                have h8 := ladv_le (g := gp) hd0 hpr hrm.2 hla wks.toNat 0 os (fr - fw) ok (by omega) (by omega) (by omega)
                exact ⟨ladv_ge hd0 hp0 hrm.1 hla _ _ _ _ _ (by omega) (by omega) (by omega), by omega⟩
              refine i_max hx hb (hml.trans hl.1.symm) hown w7 w8 w4 w9 ⟨Nat.le_of_ble_eq_true rfl, Nat.le_of_ble_eq_true rfl, Nat.le_of_ble_eq_true rfl, Nat.le_of_ble_eq_true rfl⟩ (Nat.le_of_ble_eq_true rfl) ⟨by omega, by omega⟩ ⟨by omega, by omega⟩ dX0_greatestWorthByAll_62 ?_
              refine lv_istore_n (lv' := [(2, iv (max gr lv9)), (0, .ref oa), (1, iv wks), (3, iv mo), (4, iv tr)]) hx hb dX0_greatestWorthByAll_65 rfl hl (by decide) rfl (fun ls hl => ?_)
              refine lv_aload_n hx hb dX0_greatestWorthByAll_66 rfl (lv_at hl 1 rfl) ?_
              refine lv_iload_n hx hb dX0_greatestWorthByAll_67 rfl (lv_at hl 2 rfl) ?_
              refine ms_M (wc := [(oa, ob 0 [.ref op, .ref od, .ref ow, .ref ol, iv fw, iv fr, iv ew, iv gp, iv rm, iv os, iv ok, iv ml]), (op, ar cI 5 pr), (od, ar cI 5 sd), (ow, ar cI 3050 wo), (ol, ar cI 6 la1)]) (wr := []) (va_runV (As := [iv wks]) (rest := []) ⟨hx, hb, hml, hown, hts⟩ ((mt_X0_turnToNextLadder l D cI cS cJ oa op od ow ol pr sd wo la1 fw fr ew gp rm os ok ml wks (by omega) (hla)) H.size) (cwV 1 hts gX0_greatestWorthByAll_X0_turnToNextLadder rfl rfl rfl (by decide +kernel) ⟨Nat.le_of_ble_eq_true rfl, Nat.le_of_ble_eq_true rfl⟩) (pc_V (ci := 0) (q0 := 0) hK (hP.sub (ws' := [(oa, ob 0 [.ref op, .ref od, .ref ow, .ref ol, iv fw, iv fr, iv ew, iv gp, iv rm, iv os, iv ok, iv ml]), (op, ar cI 5 pr), (od, ar cI 5 sd), (ow, ar cI 3050 wo), (ol, ar cI 6 la1)]) [0, 1, 2, 3, 4] rfl) rfl rfl (pcM_S hE hK (hP.sub (ws' := [(oa, ob 0 [.ref op, .ref od, .ref ow, .ref ol, iv fw, iv fr, iv ew, iv gp, iv rm, iv os, iv ok, iv ml]), (op, ar cI 5 pr), (od, ar cI 5 sd), (ow, ar cI 3050 wo), (ol, ar cI 6 la1)]) [0, 1, 2, 3, 4] rfl) (hD.sub (ws' := [(oa, ob 0 [.ref op, .ref od, .ref ow, .ref ol, iv fw, iv fr, iv ew, iv gp, iv rm, iv os, iv ok, iv ml]), (op, ar cI 5 pr), (od, ar cI 5 sd), (ow, ar cI 3050 wo), (ol, ar cI 6 la1)]) [0, 1, 2, 3, 4] (by decide) rfl))) rfl rfl hl.1 rfl (lv_room (Nat.le_of_ble_eq_true rfl)) dX0_greatestWorthByAll_68 ⟨Nat.le_of_ble_eq_true rfl, Nat.le_of_ble_eq_true rfl⟩) hP hD hS hA [0, 1, 2, 3, 4] [] rfl rfl (by decide) (by decide) (fun r_ w_ H locs hq_ hP hD hS => ?_)
              obtain ⟨rv_4, la2_5, hf_6, rfl, rfl⟩ := hq_
              have hP : va_P D vwCl [(oa, ob 0 [.ref op, .ref od, .ref ow, .ref ol, iv fw, iv fr, iv ew, iv gp, iv rm, iv os, iv ok, iv ml]), (op, ar cI 5 pr), (od, ar cI 5 sd), (ow, ar cI 3050 wo), (ol, ar cI 6 la2_5)] H := hP
              have hD : va_D A [(oa, ob 0 [.ref op, .ref od, .ref ow, .ref ol, iv fw, iv fr, iv ew, iv gp, iv rm, iv os, iv ok, iv ml]), (op, ar cI 5 pr), (od, ar cI 5 sd), (ow, ar cI 3050 wo), (ol, ar cI 6 la2_5)] := hD
              have hTL : pv pr sd gp rm 60 (ew - fw).toNat os (fr - fw) ok = max gr (ladg pr sd gp rm la1 wks.toNat 0 os (fr - fw) ok) ∧ tr ≤ ladn la1 wks.toNat 0 := h1 (by omega)
              have hx1 : rv_4 = 0 ∨ rv_4 = 1 := by rcases hf_6 with h | h; exact Or.inl h.1; exact Or.inr h.1
              have hx2 : LA la2_5 wks := by rcases hf_6 with ⟨_, h, _⟩ | ⟨_, t, h⟩; rw [h]; exact hla; exact h.range hla
              have hx3 : rv_4 = 1 → pv pr sd gp rm 60 (ew - fw).toNat os (fr - fw) ok = max (max gr lv9) (ladg pr sd gp rm la2_5 wks.toNat 0 os (fr - fw) ok) ∧ tr + 1 ≤ ladn la2_5 wks.toNat 0 := by
                intro hr1
                rcases hf_6 with ⟨h, _⟩ | ⟨_, t, h⟩
                · omega
                · have hn := ladg_next (g := gp) hd0 hp0 hrm.1 hla h wks.toNat 0 os (fr - fw) ok (by omega) (by omega) h.1 (by omega) (by omega)
                  have hk := ladn_next hla (h.range hla) h wks.toNat 0 (by omega) (by omega) h.1
                  rw [hTL.1, hn, ← hlv9]
                  exact ⟨by omega, by omega⟩
              have hx4 : rv_4 = 0 → pv pr sd gp rm 60 (ew - fw).toNat os (fr - fw) ok = max gr lv9 := by
                intro hr1
                rcases hf_6 with ⟨_, h, h4⟩ | ⟨h, _⟩
                · have hn := ladg_last (g := gp) hd0 hp0 hrm.1 hla wks.toNat 0 os (fr - fw) ok (by omega) (by omega) h4 (by omega)
                  rw [hTL.1, hn, ← hlv9]
                · omega
              refine lv_istore_n (lv' := [(3, iv rv_4), (2, iv (max gr lv9)), (0, .ref oa), (1, iv wks), (4, iv tr)]) hx hb dX0_greatestWorthByAll_71 rfl hl (by decide) rfl (fun ls hl => ?_)
              refine i_iinc (n := 1) (lv' := [(4, iv (tr + 1)), (3, iv rv_4), (2, iv (max gr lv9)), (0, .ref oa), (1, iv wks)]) hx hb dX0_greatestWorthByAll_72 hl (k := 4) rfl (by decide) rfl (fun ls hl => ?_)
              refine lv_goto (tgt := 45) hx hb dX0_greatestWorthByAll_75 (by decide) ?_
              exact ih_45 (max gr lv9) rv_4 (tr + 1) la2_5 (hx1) (by omega) (hx2) (by omega) (hx3) (hx4) (by first | omega | (rcases hx1 with h | h <;> rw [h] <;> simp <;> omega)) _ _ (hP.sub [0, 1, 2, 3, 4] rfl) (hD.sub [0, 1, 2, 3, 4] (by decide) rfl) hS ls (lv_sub hl [3, 4, 2, 1, 0] rfl)
        exact J_45 _ (-1) 1 0 la1 (Or.inr rfl) (by omega) (hle) (by omega) (fun _ => ⟨by rw [hV1]; omega, (ladn_lt hle wks.toNat 0 (by omega) (by omega)).1⟩) (fun h => absurd h (by decide)) (Nat.lt_succ_self _) _ _ (hP.sub [0, 1, 2, 3, 4] rfl) (hD.sub [0, 1, 2, 3, 4] (by decide) rfl) hS ls (lv_sub hl [3, 4, 2, 1, 0] rfl)
      · skip
        refine lv_aload_n hx hb dX0_greatestWorthByAll_22 rfl (lv_at hl 0 rfl) ?_
        refine va_get (D := D) (ci := 0) (v := .ref ol) (C := RX0) (T := TX0) (N := 12) hx hb hts inX0 hown hK hP 0 rfl rfl 3 (by decide) w10 (fun _ h9 => h9) rfl dX0_greatestWorthByAll_23 ?_
        refine lv_iload_n hx hb dX0_greatestWorthByAll_26 rfl (lv_at hl 2 rfl) ?_
        refine lv_aload_n hx hb dX0_greatestWorthByAll_27 rfl (lv_at hl 0 rfl) ?_
        refine va_get (D := D) (ci := 0) (v := iv os) (C := RX0) (T := TX0) (N := 12) hx hb hts inX0 hown hK hP 0 rfl rfl 9 (by decide) w11 (fun _ h9 => h9) rfl dX0_greatestWorthByAll_28 ?_
        refine i_iast hx hb hK hP hD hS 4 0 rfl rfl (by omega) (by omega) (by decide) dX0_greatestWorthByAll_31 (fun H locs hP hD hS => ?_)
        have hP : va_P D vwCl [(oa, ob 0 [.ref op, .ref od, .ref ow, .ref ol, iv fw, iv fr, iv ew, iv gp, iv rm, iv os, iv ok, iv ml]), (op, ar cI 5 pr), (od, ar cI 5 sd), (ow, ar cI 3050 wo), (ol, ar cI 6 (ui la1 ii os))] H := hP
        have hD : va_D A [(oa, ob 0 [.ref op, .ref od, .ref ow, .ref ol, iv fw, iv fr, iv ew, iv gp, iv rm, iv os, iv ok, iv ml]), (op, ar cI 5 pr), (od, ar cI 5 sd), (ow, ar cI 3050 wo), (ol, ar cI 6 (ui la1 ii os))] := hD
        refine i_iinc (n := 1) (lv' := [(2, iv (ii + 1)), (0, .ref oa), (1, iv wks)]) hx hb dX0_greatestWorthByAll_32 hl (k := 2) rfl (by decide) rfl (fun ls hl => ?_)
        refine lv_goto (tgt := 17) hx hb dX0_greatestWorthByAll_35 (by decide) ?_
        exact ih_17 (ii + 1) (ui la1 ii os) (by omega) (fun j q1 q2 => by unfold ui; split; rfl; exact hl1 j q1 (by omega)) (by omega) _ _ (hP.sub [0, 1, 2, 3, 4] rfl) (hD.sub [0, 1, 2, 3, 4] (by decide) rfl) hS ls (lv_sub hl [1, 2, 0] rfl)
  exact J_17 _ 0 la (by omega) (fun j q1 q2 => by omega) (Nat.lt_succ_self _) _ _ (hP.sub [0, 1, 2, 3, 4] rfl) (hD.sub [0, 1, 2, 3, 4] (by decide) rfl) hS ls (lv_sub hl [2, 1, 0] rfl)
