abbrev rm_X0_init : Room := { frames := 1, cells := 4, slots := 3066, locals := 20 }
set_option maxHeartbeats 4000000 in
set_option maxRecDepth 100000 in
/-- the rows of the plans -/
theorem mt_X0_init (l : Launch) (D : va_G) (cI cS cJ : ClassId) (oa : Nat)  : cM l yX0_init wsX0_init rm_X0_init [.ref oa] D (tyL cI cS cJ) [(oa, ob 0 [.null, .null, .null, .null, iv 0, iv 0, iv 0, iv 0, iv 0, iv 0, iv 0, iv 0])] (fun r_ w_ => ∃ op : Nat, ∃ od : Nat, ∃ ow : Nat, ∃ ol : Nat, r_ = none ∧ w_ = [(oa, ob 0 [.ref op, .ref od, .ref ow, .ref ol, iv 0, iv 0, iv 0, iv 0, iv 0, iv 0, iv 0, iv 0]), (op, ar cI 5 ((fun _ => 0))), (od, ar cI 5 ((fun _ => 0))), (ow, ar cI 3050 ((fun _ => 0))), (ol, ar cI 6 ((fun _ => 0)))]) 4 3066 := by
  refine en_M (cc := cX0_init) (maxL := 1) (ret := none) (by decide) rfl (Nat.le_of_ble_eq_true rfl) ?_
  intro p e s m args below meth c ls A hX hE hP hK hD hS hA hl Q hQ
  obtain ⟨hx, hb, hr, hml, hts, hown, hlocks, hnm⟩ := hX
  have hown : s.vm.findClass RX0 = some m.cls := hown
  have hl : lv_has ls 1 [(0, .ref oa)] := hl
  have inX0 : ∀ w ∈ u_ws RX0 TX0 12, w ∈ wsX0_init := by decide +kernel
  have w0 : (Cond.methodLink RX0 3 objectInit).before args s = true := hts _ (by decide +kernel)
  have w1 : (Cond.instanceMethod objectInit).before args s = true := hts _ (by decide +kernel)
  have w2 : (Cond.code objectInit ⟨#[0xb1]⟩ 1 none).before args s = true := hts _ (by decide +kernel)
  have w3 : (Cond.arrayClass .int).before args s = true := hts _ (by decide +kernel)
  have w4 : (Cond.fieldLink RX0 9 RX0 "prices" "[I").before args s = true := hts _ (by decide +kernel)
  have w5 : (Cond.fieldLink RX0 15 RX0 "demands" "[I").before args s = true := hts _ (by decide +kernel)
  have w6 : (Cond.fieldLink RX0 18 RX0 "worths" "[I").before args s = true := hts _ (by decide +kernel)
  have w7 : (Cond.fieldLink RX0 21 RX0 "ladder" "[I").before args s = true := hts _ (by decide +kernel)
  refine lv_aload_n hx hb dX0_init_0 rfl (lv_at hl 0 rfl) ?_
  refine W.objInit hx hb hown w0 w1 w2 rfl (by rw [hml]; exact hl.1) rfl dX0_init_1 (Nat.le_of_ble_eq_true rfl) (Nat.le_of_ble_eq_true rfl) ?_
  refine W.eq (g2 := F0 m 4 ls []) rfl ?_
  refine lv_aload_n hx hb dX0_init_4 rfl (lv_at hl 0 rfl) ?_
  refine lv_iconst (v := zI 5) hx hb dX0_init_5 rfl ?_
  refine i_newa (n := 5) (N := 5) hx hb w3 hK hP hD hS hA rfl (Nat.le_of_ble_eq_true rfl) (Nat.le_of_ble_eq_true rfl) (Nat.le_of_ble_eq_true rfl) dX0_init_6 (fun q_1 H hP hD hS => ?_)
  have hP : va_P D vwCl [(oa, ob 0 [.null, .null, .null, .null, iv 0, iv 0, iv 0, iv 0, iv 0, iv 0, iv 0, iv 0]), (q_1, ar cI 5 ((fun _ => 0)))] H := hP
  have hD : va_D A [(oa, ob 0 [.null, .null, .null, .null, iv 0, iv 0, iv 0, iv 0, iv 0, iv 0, iv 0, iv 0]), (q_1, ar cI 5 ((fun _ => 0)))] := hD
  refine va_putF (D := D) (ci := 0) (v := .ref q_1) (ty := (.array .int)) (C := RX0) (T := TX0) (N := 12) hx hb hts inX0 tyX0 tyX0_ok nmX0 hown hK hP hD hS 0 rfl rfl 0 (by decide) w4 (fun _ h9 => h9) rfl hnm rfl (by decide +kernel) rfl rfl (Nat.le_of_ble_eq_true rfl) dX0_init_8 (fun H locs hP hD hS => ?_)
  have hP : va_P D vwCl [(oa, ob 0 [.ref q_1, .null, .null, .null, iv 0, iv 0, iv 0, iv 0, iv 0, iv 0, iv 0, iv 0]), (q_1, ar cI 5 ((fun _ => 0)))] H := hP
  have hD : va_D A [(oa, ob 0 [.ref q_1, .null, .null, .null, iv 0, iv 0, iv 0, iv 0, iv 0, iv 0, iv 0, iv 0]), (q_1, ar cI 5 ((fun _ => 0)))] := hD
  refine lv_aload_n hx hb dX0_init_11 rfl (lv_at hl 0 rfl) ?_
  refine lv_iconst (v := zI 5) hx hb dX0_init_12 rfl ?_
  refine i_newa (n := 5) (N := 5) hx hb w3 hK hP hD hS hA rfl (Nat.le_of_ble_eq_true rfl) (Nat.le_of_ble_eq_true rfl) (Nat.le_of_ble_eq_true rfl) dX0_init_13 (fun q_2 H hP hD hS => ?_)
  have hP : va_P D vwCl [(oa, ob 0 [.ref q_1, .null, .null, .null, iv 0, iv 0, iv 0, iv 0, iv 0, iv 0, iv 0, iv 0]), (q_1, ar cI 5 ((fun _ => 0))), (q_2, ar cI 5 ((fun _ => 0)))] H := hP
  have hD : va_D A [(oa, ob 0 [.ref q_1, .null, .null, .null, iv 0, iv 0, iv 0, iv 0, iv 0, iv 0, iv 0, iv 0]), (q_1, ar cI 5 ((fun _ => 0))), (q_2, ar cI 5 ((fun _ => 0)))] := hD
  refine va_putF (D := D) (ci := 0) (v := .ref q_2) (ty := (.array .int)) (C := RX0) (T := TX0) (N := 12) hx hb hts inX0 tyX0 tyX0_ok nmX0 hown hK hP hD hS 0 rfl rfl 1 (by decide) w5 (fun _ h9 => h9) rfl hnm rfl (by decide +kernel) rfl rfl (Nat.le_of_ble_eq_true rfl) dX0_init_15 (fun H locs hP hD hS => ?_)
  have hP : va_P D vwCl [(oa, ob 0 [.ref q_1, .ref q_2, .null, .null, iv 0, iv 0, iv 0, iv 0, iv 0, iv 0, iv 0, iv 0]), (q_1, ar cI 5 ((fun _ => 0))), (q_2, ar cI 5 ((fun _ => 0)))] H := hP
  have hD : va_D A [(oa, ob 0 [.ref q_1, .ref q_2, .null, .null, iv 0, iv 0, iv 0, iv 0, iv 0, iv 0, iv 0, iv 0]), (q_1, ar cI 5 ((fun _ => 0))), (q_2, ar cI 5 ((fun _ => 0)))] := hD
  refine lv_aload_n hx hb dX0_init_18 rfl (lv_at hl 0 rfl) ?_
  refine lv_sipush (v := zI 3050) hx hb dX0_init_19 (by decide) ?_
  refine i_newa (n := 3050) (N := 3050) hx hb w3 hK hP hD hS hA rfl (Nat.le_of_ble_eq_true rfl) (Nat.le_of_ble_eq_true rfl) (Nat.le_of_ble_eq_true rfl) dX0_init_22 (fun q_3 H hP hD hS => ?_)
  have hP : va_P D vwCl [(oa, ob 0 [.ref q_1, .ref q_2, .null, .null, iv 0, iv 0, iv 0, iv 0, iv 0, iv 0, iv 0, iv 0]), (q_1, ar cI 5 ((fun _ => 0))), (q_2, ar cI 5 ((fun _ => 0))), (q_3, ar cI 3050 ((fun _ => 0)))] H := hP
  have hD : va_D A [(oa, ob 0 [.ref q_1, .ref q_2, .null, .null, iv 0, iv 0, iv 0, iv 0, iv 0, iv 0, iv 0, iv 0]), (q_1, ar cI 5 ((fun _ => 0))), (q_2, ar cI 5 ((fun _ => 0))), (q_3, ar cI 3050 ((fun _ => 0)))] := hD
  refine va_putF (D := D) (ci := 0) (v := .ref q_3) (ty := (.array .int)) (C := RX0) (T := TX0) (N := 12) hx hb hts inX0 tyX0 tyX0_ok nmX0 hown hK hP hD hS 0 rfl rfl 2 (by decide) w6 (fun _ h9 => h9) rfl hnm rfl (by decide +kernel) rfl rfl (Nat.le_of_ble_eq_true rfl) dX0_init_24 (fun H locs hP hD hS => ?_)
  have hP : va_P D vwCl [(oa, ob 0 [.ref q_1, .ref q_2, .ref q_3, .null, iv 0, iv 0, iv 0, iv 0, iv 0, iv 0, iv 0, iv 0]), (q_1, ar cI 5 ((fun _ => 0))), (q_2, ar cI 5 ((fun _ => 0))), (q_3, ar cI 3050 ((fun _ => 0)))] H := hP
  have hD : va_D A [(oa, ob 0 [.ref q_1, .ref q_2, .ref q_3, .null, iv 0, iv 0, iv 0, iv 0, iv 0, iv 0, iv 0, iv 0]), (q_1, ar cI 5 ((fun _ => 0))), (q_2, ar cI 5 ((fun _ => 0))), (q_3, ar cI 3050 ((fun _ => 0)))] := hD
  refine lv_aload_n hx hb dX0_init_27 rfl (lv_at hl 0 rfl) ?_
  refine lv_bipush (v := zI 6) hx hb dX0_init_28 (by decide) ?_
  refine i_newa (n := 6) (N := 6) hx hb w3 hK hP hD hS hA rfl (Nat.le_of_ble_eq_true rfl) (Nat.le_of_ble_eq_true rfl) (Nat.le_of_ble_eq_true rfl) dX0_init_30 (fun q_4 H hP hD hS => ?_)
  have hP : va_P D vwCl [(oa, ob 0 [.ref q_1, .ref q_2, .ref q_3, .null, iv 0, iv 0, iv 0, iv 0, iv 0, iv 0, iv 0, iv 0]), (q_1, ar cI 5 ((fun _ => 0))), (q_2, ar cI 5 ((fun _ => 0))), (q_3, ar cI 3050 ((fun _ => 0))), (q_4, ar cI 6 ((fun _ => 0)))] H := hP
  have hD : va_D A [(oa, ob 0 [.ref q_1, .ref q_2, .ref q_3, .null, iv 0, iv 0, iv 0, iv 0, iv 0, iv 0, iv 0, iv 0]), (q_1, ar cI 5 ((fun _ => 0))), (q_2, ar cI 5 ((fun _ => 0))), (q_3, ar cI 3050 ((fun _ => 0))), (q_4, ar cI 6 ((fun _ => 0)))] := hD
  refine va_putF (D := D) (ci := 0) (v := .ref q_4) (ty := (.array .int)) (C := RX0) (T := TX0) (N := 12) hx hb hts inX0 tyX0 tyX0_ok nmX0 hown hK hP hD hS 0 rfl rfl 3 (by decide) w7 (fun _ h9 => h9) rfl hnm rfl (by decide +kernel) rfl rfl (Nat.le_of_ble_eq_true rfl) dX0_init_32 (fun H locs hP hD hS => ?_)
  have hP : va_P D vwCl [(oa, ob 0 [.ref q_1, .ref q_2, .ref q_3, .ref q_4, iv 0, iv 0, iv 0, iv 0, iv 0, iv 0, iv 0, iv 0]), (q_1, ar cI 5 ((fun _ => 0))), (q_2, ar cI 5 ((fun _ => 0))), (q_3, ar cI 3050 ((fun _ => 0))), (q_4, ar cI 6 ((fun _ => 0)))] H := hP
  have hD : va_D A [(oa, ob 0 [.ref q_1, .ref q_2, .ref q_3, .ref q_4, iv 0, iv 0, iv 0, iv 0, iv 0, iv 0, iv 0, iv 0]), (q_1, ar cI 5 ((fun _ => 0))), (q_2, ar cI 5 ((fun _ => 0))), (q_3, ar cI 3050 ((fun _ => 0))), (q_4, ar cI 6 ((fun _ => 0)))] := hD
  subst hQ
  exact r_Mv hx hb hr hlocks dX0_init_35 hS (hP.sub (ws' := [(oa, ob 0 [.ref q_1, .ref q_2, .ref q_3, .ref q_4, iv 0, iv 0, iv 0, iv 0, iv 0, iv 0, iv 0, iv 0]), (q_1, ar cI 5 ((fun _ => 0))), (q_2, ar cI 5 ((fun _ => 0))), (q_3, ar cI 3050 ((fun _ => 0))), (q_4, ar cI 6 ((fun _ => 0)))]) [0, 1, 2, 3, 4] rfl) (hD.sub (ws' := [(oa, ob 0 [.ref q_1, .ref q_2, .ref q_3, .ref q_4, iv 0, iv 0, iv 0, iv 0, iv 0, iv 0, iv 0, iv 0]), (q_1, ar cI 5 ((fun _ => 0))), (q_2, ar cI 5 ((fun _ => 0))), (q_3, ar cI 3050 ((fun _ => 0))), (q_4, ar cI 6 ((fun _ => 0)))]) [0, 1, 2, 3, 4] (by decide) rfl) (⟨q_1, q_2, q_3, q_4, rfl, rfl⟩) (Nat.le_of_ble_eq_true rfl) (Nat.le_of_ble_eq_true rfl)

abbrev rm_X0_placeOf : Room := { frames := 0, cells := 0, slots := 0, locals := 0 }
set_option maxHeartbeats 4000000 in
set_option maxRecDepth 100000 in
/-- where a worth lies -/
theorem mt_X0_placeOf (l : Launch) (D : va_G) (cI cS cJ : ClassId) (wk : Int) (sp : Int) (lf : Int)  : cP l yX0_placeOf wsX0_placeOf rm_X0_placeOf [iv wk, iv sp, iv lf] D (tyL cI cS cJ) [] (zI ((wk * 5 + sp) * 61 + lf)) := by
  refine en_P (cc := cX0_placeOf) (maxL := 3) (ret := (some .int)) (by decide) rfl (Nat.le_of_ble_eq_true rfl) ?_
  intro p e s m args below meth c ls hX hE hP hK hl Q hQ
  obtain ⟨hx, hb, hr, hml, hts, hown, hlocks, hnm⟩ := hX
  have hown : s.vm.findClass RX0 = some m.cls := hown
  have hl : lv_has ls 3 [(0, iv wk), (1, iv sp), (2, iv lf)] := hl
  refine lv_iload_n hx hb dX0_placeOf_0 rfl (lv_at hl 0 rfl) ?_
  refine lv_iconst (v := zI 5) hx hb dX0_placeOf_1 rfl ?_
  refine i_imul hx hb dX0_placeOf_2 ?_
  refine lv_iload_n hx hb dX0_placeOf_3 rfl (lv_at hl 1 rfl) ?_
  refine i_iadd hx hb dX0_placeOf_4 ?_
  refine lv_bipush (v := zI 61) hx hb dX0_placeOf_5 (by decide) ?_
  refine i_imul hx hb dX0_placeOf_7 ?_
  refine lv_iload_n hx hb dX0_placeOf_8 rfl (lv_at hl 2 rfl) ?_
  refine i_iadd hx hb dX0_placeOf_9 ?_
  subst hQ
  exact r_P hx hb hr hlocks (by rfl) dX0_placeOf_10 (by first | rfl | (congr 1; omega))

abbrev rm_X0_worthFrom : Room := { frames := 1, cells := 0, slots := 0, locals := 22 }
set_option maxHeartbeats 4000000 in
set_option maxRecDepth 100000 in
/-- what is still to be had -/
theorem mt_X0_worthFrom (l : Launch) (D : va_G) (cI cS cJ : ClassId) (oa : Nat) (op : Nat) (od : Nat) (ow : Nat) (ol : Nat) (pr : Int → Int) (sd : Int → Int) (wo : Int → Int) (la : Int → Int) (fw : Int) (fr : Int) (ew : Int) (gp : Int) (rm : Int) (os : Int) (ok : Int) (ml : Int) (wk : Int) (sp : Int) (lf : Int) (lo : Int) (hB : PB pr sd fw fr ew gp rm os ok) (hm6 : 0 ≤ ml ∧ ml ≤ 60) (hG : GW pr sd gp rm ml ew os ok wo lo) (hwk : lo ≤ wk ∧ 0 ≤ wk ∧ wk ≤ ew) (hsp : os ≤ sp ∧ sp < 5) (hlf : 0 ≤ lf ∧ lf ≤ ok) : cP l yX0_worthFrom wsX0_worthFrom rm_X0_worthFrom [.ref oa, iv wk, iv sp, iv lf] D (tyL cI cS cJ) [(oa, ob 0 [.ref op, .ref od, .ref ow, .ref ol, iv fw, iv fr, iv ew, iv gp, iv rm, iv os, iv ok, iv ml]), (op, ar cI 5 pr), (od, ar cI 5 sd), (ow, ar cI 3050 wo), (ol, ar cI 6 la)] (zI (pv pr sd gp rm ml (ew - wk).toNat sp 0 lf)) := by
  refine en_P (cc := cX0_worthFrom) (maxL := 4) (ret := (some .int)) (by decide) rfl (Nat.le_of_ble_eq_true rfl) ?_
  intro p e s m args below meth c ls hX hE hP hK hl Q hQ
  obtain ⟨hx, hb, hr, hml, hts, hown, hlocks, hnm⟩ := hX
  have hown : s.vm.findClass RX0 = some m.cls := hown
  have hl : lv_has ls 4 [(0, .ref oa), (1, iv wk), (2, iv sp), (3, iv lf)] := hl
  have inX0 : ∀ w ∈ u_ws RX0 TX0 12, w ∈ wsX0_worthFrom := by decide +kernel
  have w0 : (Cond.fieldLink RX0 46 RX0 "endWeek" "I").before args s = true := hts _ (by decide +kernel)
  have w1 : (Cond.fieldLink RX0 94 RX0 "mostLeft" "I").before args s = true := hts _ (by decide +kernel)
  have w2 : (Cond.fieldLink RX0 56 RX0 "remnant" "I").before args s = true := hts _ (by decide +kernel)
  have w3 : (Cond.fieldLink RX0 18 RX0 "worths" "[I").before args s = true := hts _ (by decide +kernel)
  obtain ⟨hfw, hfr, hgp, hrm, hos, hok, hpr, hsd⟩ := id hB
  have hd0 : ∀ j : Int, 0 ≤ j → j < 5 → 0 ≤ sd j := fun j a b => (hsd j a b).1
  have hp0 : ∀ j : Int, 0 ≤ j → j < 5 → 0 ≤ pr j := fun j a b => (hpr j a b).1
  refine lv_iload_n hx hb dX0_worthFrom_0 rfl (lv_at hl 1 rfl) ?_
  refine lv_aload_n hx hb dX0_worthFrom_1 rfl (lv_at hl 0 rfl) ?_
  refine va_get (D := D) (ci := 0) (v := iv ew) (C := RX0) (T := TX0) (N := 12) hx hb hts inX0 hown hK hP 0 rfl rfl 6 (by decide) w0 (fun _ h9 => h9) rfl dX0_worthFrom_2 ?_
  refine i_icmp_ge (tgt := 20) hx hb ⟨by omega, by omega⟩ ⟨by omega, by omega⟩ dX0_worthFrom_5 (by decide) (fun c_1 => ?_) (fun c_1 => ?_)
  · skip
    refine lv_iload_n hx hb dX0_worthFrom_20 rfl (lv_at hl 3 rfl) ?_
    refine lv_aload_n hx hb dX0_worthFrom_21 rfl (lv_at hl 0 rfl) ?_
    refine va_get (D := D) (ci := 0) (v := iv ml) (C := RX0) (T := TX0) (N := 12) hx hb hts inX0 hown hK hP 0 rfl rfl 11 (by decide) w1 (fun _ h9 => h9) rfl dX0_worthFrom_22 ?_
    refine i_icmp_le (tgt := 32) hx hb ⟨by omega, by omega⟩ ⟨by omega, by omega⟩ dX0_worthFrom_25 (by decide) (fun c_2 => ?_) (fun c_2 => ?_)
    · skip
      refine lv_iload_n hx hb dX0_worthFrom_32 rfl (lv_at hl 3 rfl) ?_
      refine lv_aload_n hx hb dX0_worthFrom_33 rfl (lv_at hl 0 rfl) ?_
      refine va_get (D := D) (ci := 0) (v := iv rm) (C := RX0) (T := TX0) (N := 12) hx hb hts inX0 hown hK hP 0 rfl rfl 8 (by decide) w2 (fun _ h9 => h9) rfl dX0_worthFrom_34 ?_
      refine i_imul hx hb dX0_worthFrom_37 ?_
      subst hQ
      exact r_P hx hb hr hlocks (by rfl) dX0_worthFrom_38 (by rw [show (ew - wk).toNat = 0 by omega]; first | exact congrArg zI (if_neg (by omega)).symm | exact congrArg zI (if_pos (by omega)).symm)
    · skip
      refine lv_iconst (v := zI (-1)) hx hb dX0_worthFrom_28 rfl ?_
      refine lv_goto (tgt := 38) hx hb dX0_worthFrom_29 (by decide) ?_
      subst hQ
      exact r_P hx hb hr hlocks (by rfl) dX0_worthFrom_38 (by rw [show (ew - wk).toNat = 0 by omega]; first | exact congrArg zI (if_neg (by omega)).symm | exact congrArg zI (if_pos (by omega)).symm)
  · skip
    refine lv_aload_n hx hb dX0_worthFrom_8 rfl (lv_at hl 0 rfl) ?_
    refine va_get (D := D) (ci := 0) (v := .ref ow) (C := RX0) (T := TX0) (N := 12) hx hb hts inX0 hown hK hP 0 rfl rfl 2 (by decide) w3 (fun _ h9 => h9) rfl dX0_worthFrom_9 ?_
    refine lv_iload_n hx hb dX0_worthFrom_12 rfl (lv_at hl 1 rfl) ?_
    refine lv_iload_n hx hb dX0_worthFrom_13 rfl (lv_at hl 2 rfl) ?_
    refine lv_iload_n hx hb dX0_worthFrom_14 rfl (lv_at hl 3 rfl) ?_
    refine ms_P (va_runS (As := [iv wk, iv sp, iv lf]) (rest := [.ref ow]) ⟨hx, hb, hml, hown, hts⟩ (mt_X0_placeOf l D cI cS cJ wk sp lf) (va_cwS 3 hts gX0_worthFrom_X0_placeOf rfl rfl rfl (by decide +kernel) ⟨Nat.le_of_ble_eq_true rfl, Nat.le_of_ble_eq_true rfl⟩) (pcP_S hE hK (hP.sub (ws' := []) [] rfl)) rfl rfl hl.1 rfl (lv_room (Nat.le_of_ble_eq_true rfl)) dX0_worthFrom_15 ⟨Nat.le_of_ble_eq_true rfl, Nat.le_of_ble_eq_true rfl⟩) ?_
    refine i_iald hx hb hK hP 3 0 rfl rfl (by omega) (by omega) (by decide) dX0_worthFrom_18 ?_
    subst hQ
    exact r_P hx hb hr hlocks (by rfl) dX0_worthFrom_19 (congrArg zI (hG wk sp lf hwk.1 (by omega) hsp.1 hsp.2 hlf.1 hlf.2))

abbrev rm_X0_worthOfKeeping : Room := { frames := 2, cells := 0, slots := 0, locals := 45 }
set_option maxHeartbeats 4000000 in
set_option maxRecDepth 100000 in
/-- a step is kept for some weeks -/
theorem mt_X0_worthOfKeeping (l : Launch) (D : va_G) (cI cS cJ : ClassId) (oa : Nat) (op : Nat) (od : Nat) (ow : Nat) (ol : Nat) (pr : Int → Int) (sd : Int → Int) (wo : Int → Int) (la : Int → Int) (fw : Int) (fr : Int) (ew : Int) (gp : Int) (rm : Int) (os : Int) (ok : Int) (ml : Int) (wk : Int) (sp : Int) (wt : Int) (lf : Int) (lo : Int) (hB : PB pr sd fw fr ew gp rm os ok) (hm6 : 0 ≤ ml ∧ ml ≤ 60) (hG : GW pr sd gp rm ml ew os ok wo lo) (hwk : 0 ≤ wk ∧ wk ≤ ew) (hwt : 0 ≤ wt ∧ wt ≤ 100 ∧ lo ≤ wk + min wt (ew - wk)) (hsp : os ≤ sp ∧ sp < 5) (hlf : 0 ≤ lf ∧ lf ≤ ok) : cP l yX0_worthOfKeeping wsX0_worthOfKeeping rm_X0_worthOfKeeping [.ref oa, iv wk, iv sp, iv wt, iv lf] D (tyL cI cS cJ) [(oa, ob 0 [.ref op, .ref od, .ref ow, .ref ol, iv fw, iv fr, iv ew, iv gp, iv rm, iv os, iv ok, iv ml]), (op, ar cI 5 pr), (od, ar cI 5 sd), (ow, ar cI 3050 wo), (ol, ar cI 6 la)] (zI (pv pr sd gp rm ml (ew - wk).toNat sp wt lf)) := by
  refine en_P (cc := cX0_worthOfKeeping) (maxL := 8) (ret := (some .int)) (by decide) rfl (Nat.le_of_ble_eq_true rfl) ?_
  intro p e s m args below meth c ls hX hE hP hK hl Q hQ
  obtain ⟨hx, hb, hr, hml, hts, hown, hlocks, hnm⟩ := hX
  have hown : s.vm.findClass RX0 = some m.cls := hown
  have hl : lv_has ls 8 [(0, .ref oa), (1, iv wk), (2, iv sp), (3, iv wt), (4, iv lf)] := hl
  have inX0 : ∀ w ∈ u_ws RX0 TX0 12, w ∈ wsX0_worthOfKeeping := by decide +kernel
  have w0 : (Cond.fieldLink RX0 46 RX0 "endWeek" "I").before args s = true := hts _ (by decide +kernel)
  have w1 : (Cond.methodLink RX0 61 Lib.Math.min.name).before args s = true := hts _ (by decide +kernel)
  have w2 : (Cond.static Lib.Math.min.name).before args s = true := hts _ (by decide +kernel)
  have w3 : (Cond.initialized "java/lang/Math").before args s = true := hts _ (by decide +kernel)
  have w4 : (Cond.code Lib.Math.min.name Lib.Math.min.code 2 (some .int)).before args s = true := hts _ (by decide +kernel)
  have w5 : (Cond.fieldLink RX0 15 RX0 "demands" "[I").before args s = true := hts _ (by decide +kernel)
  have w6 : (Cond.fieldLink RX0 9 RX0 "prices" "[I").before args s = true := hts _ (by decide +kernel)
  obtain ⟨hfw, hfr, hgp, hrm, hos, hok, hpr, hsd⟩ := id hB
  have hd0 : ∀ j : Int, 0 ≤ j → j < 5 → 0 ≤ sd j := fun j a b => (hsd j a b).1
  have hp0 : ∀ j : Int, 0 ≤ j → j < 5 → 0 ≤ pr j := fun j a b => (hpr j a b).1
  refine lv_iload_n hx hb dX0_worthOfKeeping_0 rfl (lv_at hl 3 rfl) ?_
  refine lv_aload_n hx hb dX0_worthOfKeeping_1 rfl (lv_at hl 0 rfl) ?_
  refine va_get (D := D) (ci := 0) (v := iv ew) (C := RX0) (T := TX0) (N := 12) hx hb hts inX0 hown hK hP 0 rfl rfl 6 (by decide) w0 (fun _ h9 => h9) rfl dX0_worthOfKeeping_2 ?_
  refine lv_iload_n hx hb dX0_worthOfKeeping_5 rfl (lv_at hl 1 rfl) ?_
  refine i_isub hx hb dX0_worthOfKeeping_6 ?_
  refine i_min hx hb (hml.trans hl.1.symm) hown w1 w2 w3 w4 ⟨Nat.le_of_ble_eq_true rfl, Nat.le_of_ble_eq_true rfl, Nat.le_of_ble_eq_true rfl, Nat.le_of_ble_eq_true rfl⟩ (Nat.le_of_ble_eq_true rfl) ⟨by omega, by omega⟩ ⟨by omega, by omega⟩ dX0_worthOfKeeping_7 ?_
  refine i_name (fun kp hkp => ?_)
  have hsd1 := hsd sp (by omega) (by omega)
  have hpr1 := hpr sp (by omega) (by omega)
  have hkd0 : 0 ≤ kp * sd sp := Int.mul_nonneg (by omega) hsd1.1
  have hkd1 : kp * sd sp ≤ 10 * 30 := Int.mul_le_mul (by omega) hsd1.2 hsd1.1 (by decide)
  refine lv_istore (lv' := [(5, iv kp), (0, .ref oa), (1, iv wk), (2, iv sp), (3, iv wt), (4, iv lf)]) hx hb dX0_worthOfKeeping_10 hl (by decide) rfl (fun ls hl => ?_)
  refine lv_iload hx hb dX0_worthOfKeeping_12 (lv_at hl 5 rfl) ?_
  refine lv_iload hx hb dX0_worthOfKeeping_14 (lv_at hl 0 rfl) ?_
  refine lv_aload_n hx hb dX0_worthOfKeeping_16 rfl (lv_at hl 1 rfl) ?_
  refine va_get (D := D) (ci := 0) (v := .ref od) (C := RX0) (T := TX0) (N := 12) hx hb hts inX0 hown hK hP 0 rfl rfl 1 (by decide) w5 (fun _ h9 => h9) rfl dX0_worthOfKeeping_17 ?_
  refine lv_iload_n hx hb dX0_worthOfKeeping_20 rfl (lv_at hl 3 rfl) ?_
  refine i_iald hx hb hK hP 2 0 rfl rfl (by omega) (by omega) (by decide) dX0_worthOfKeeping_21 ?_
  refine i_imul hx hb dX0_worthOfKeeping_22 ?_
  refine i_min hx hb (hml.trans hl.1.symm) hown w1 w2 w3 w4 ⟨Nat.le_of_ble_eq_true rfl, Nat.le_of_ble_eq_true rfl, Nat.le_of_ble_eq_true rfl, Nat.le_of_ble_eq_true rfl⟩ (Nat.le_of_ble_eq_true rfl) ⟨by omega, by omega⟩ ⟨by omega, by omega⟩ dX0_worthOfKeeping_23 ?_
  refine i_name (fun sl hsl => ?_)
  refine lv_istore (lv' := [(6, iv sl), (5, iv kp), (0, .ref oa), (1, iv wk), (2, iv sp), (3, iv wt), (4, iv lf)]) hx hb dX0_worthOfKeeping_26 hl (by decide) rfl (fun ls hl => ?_)
  refine lv_aload_n hx hb dX0_worthOfKeeping_28 rfl (lv_at hl 2 rfl) ?_
  refine lv_iload_n hx hb dX0_worthOfKeeping_29 rfl (lv_at hl 3 rfl) ?_
  refine lv_iload hx hb dX0_worthOfKeeping_30 (lv_at hl 1 rfl) ?_
  refine i_iadd hx hb dX0_worthOfKeeping_32 ?_
  refine lv_iload_n hx hb dX0_worthOfKeeping_33 rfl (lv_at hl 4 rfl) ?_
  refine lv_iload hx hb dX0_worthOfKeeping_34 (lv_at hl 6 rfl) ?_
  refine lv_iload hx hb dX0_worthOfKeeping_36 (lv_at hl 0 rfl) ?_
  refine i_isub hx hb dX0_worthOfKeeping_38 ?_
  refine ms_P (va_runV (As := [iv (wk + kp), iv sp, iv (lf - sl)]) (rest := []) ⟨hx, hb, hml, hown, hts⟩ (mt_X0_worthFrom l D cI cS cJ oa op od ow ol pr sd wo la fw fr ew gp rm os ok ml (wk + kp) sp (lf - sl) lo (hB) (hm6) (hG) (by omega) (by omega) (by omega)) (cwV 3 hts gX0_worthOfKeeping_X0_worthFrom rfl rfl rfl (by decide +kernel) ⟨Nat.le_of_ble_eq_true rfl, Nat.le_of_ble_eq_true rfl⟩) (pc_V (ci := 0) (q0 := 0) hK (hP.sub (ws' := [(oa, ob 0 [.ref op, .ref od, .ref ow, .ref ol, iv fw, iv fr, iv ew, iv gp, iv rm, iv os, iv ok, iv ml]), (op, ar cI 5 pr), (od, ar cI 5 sd), (ow, ar cI 3050 wo), (ol, ar cI 6 la)]) [0, 1, 2, 3, 4] rfl) rfl rfl (pcP_S hE hK (hP.sub (ws' := [(oa, ob 0 [.ref op, .ref od, .ref ow, .ref ol, iv fw, iv fr, iv ew, iv gp, iv rm, iv os, iv ok, iv ml]), (op, ar cI 5 pr), (od, ar cI 5 sd), (ow, ar cI 3050 wo), (ol, ar cI 6 la)]) [0, 1, 2, 3, 4] rfl))) rfl rfl hl.1 rfl (lv_room (Nat.le_of_ble_eq_true rfl)) dX0_worthOfKeeping_39 ⟨Nat.le_of_ble_eq_true rfl, Nat.le_of_ble_eq_true rfl⟩) ?_
  refine i_name (fun rs hrs => ?_)
  have hr1 := pv_ge (g := gp) (ml := ml) hd0 hp0 hrm.1 (ew - (wk + kp)).toNat sp 0 (lf - sl) (by omega)
  have hr2 := pv_le (g := gp) (ml := ml) hd0 hpr hrm.2 (ew - (wk + kp)).toNat sp 0 (lf - sl) (by omega) (by omega)
  have hkeep := pv_keep (pr := pr) (d := sd) (g := gp) (r := rm) (ml := ml) hd0 hp0 hrm.1 (b := sp) (by omega) (by omega) kp.toNat (ew - wk).toNat wt lf hlf.1 (by omega)
  rw [show ((kp.toNat : Nat) : Int) = kp by omega, show (ew - wk).toNat - kp.toNat = (ew - (wk + kp)).toNat by omega, ← hsl, ← hrs] at hkeep
  unfold add1 at hkeep
  refine lv_istore (lv' := [(7, iv rs), (6, iv sl), (5, iv kp), (0, .ref oa), (1, iv wk), (2, iv sp), (3, iv wt), (4, iv lf)]) hx hb dX0_worthOfKeeping_42 hl (by decide) rfl (fun ls hl => ?_)
  refine lv_iload hx hb dX0_worthOfKeeping_44 (lv_at hl 0 rfl) ?_
  refine lv_iconst (v := zI (-1)) hx hb dX0_worthOfKeeping_46 rfl ?_
  refine i_icmp_ne (tgt := 54) hx hb ⟨by omega, by omega⟩ ⟨by decide, by decide⟩ dX0_worthOfKeeping_47 (by decide) (fun c_1 => ?_) (fun c_1 => ?_)
  · skip
    refine lv_iload hx hb dX0_worthOfKeeping_54 (lv_at hl 1 rfl) ?_
    refine lv_aload_n hx hb dX0_worthOfKeeping_56 rfl (lv_at hl 3 rfl) ?_
    refine va_get (D := D) (ci := 0) (v := .ref op) (C := RX0) (T := TX0) (N := 12) hx hb hts inX0 hown hK hP 0 rfl rfl 0 (by decide) w6 (fun _ h9 => h9) rfl dX0_worthOfKeeping_57 ?_
    refine lv_iload_n hx hb dX0_worthOfKeeping_60 rfl (lv_at hl 5 rfl) ?_
    refine i_iald hx hb hK hP 1 0 rfl rfl (by omega) (by omega) (by decide) dX0_worthOfKeeping_61 ?_
    refine i_imul hx hb dX0_worthOfKeeping_62 ?_
    refine lv_iload hx hb dX0_worthOfKeeping_63 (lv_at hl 0 rfl) ?_
    refine i_iadd hx hb dX0_worthOfKeeping_65 ?_
    subst hQ
    exact r_P hx hb hr hlocks (by rfl) dX0_worthOfKeeping_66 (by rw [hkeep]; first | exact congrArg zI (if_pos (by omega)).symm | (rw [if_neg (by omega)]; congr 1; omega))
  · skip
    refine lv_iconst (v := zI (-1)) hx hb dX0_worthOfKeeping_50 rfl ?_
    refine lv_goto (tgt := 66) hx hb dX0_worthOfKeeping_51 (by decide) ?_
    subst hQ
    exact r_P hx hb hr hlocks (by rfl) dX0_worthOfKeeping_66 (by rw [hkeep]; first | exact congrArg zI (if_pos (by omega)).symm | (rw [if_neg (by omega)]; congr 1; omega))

abbrev rm_X0_worthOfTaking : Room := { frames := 3, cells := 0, slots := 0, locals := 72 }
set_option maxHeartbeats 4000000 in
set_option maxRecDepth 100000 in
/-- a step is taken -/
theorem mt_X0_worthOfTaking (l : Launch) (D : va_G) (cI cS cJ : ClassId) (oa : Nat) (op : Nat) (od : Nat) (ow : Nat) (ol : Nat) (pr : Int → Int) (sd : Int → Int) (wo : Int → Int) (la : Int → Int) (fw : Int) (fr : Int) (ew : Int) (gp : Int) (rm : Int) (os : Int) (ok : Int) (ml : Int) (wk : Int) (sp : Int) (nx : Int) (lf : Int) (hB : PB pr sd fw fr ew gp rm os ok) (hm6 : 0 ≤ ml ∧ ml ≤ 60) (hG : GW pr sd gp rm ml ew os ok wo (wk + 1)) (hwk : 0 ≤ wk ∧ wk < ew) (hsp : os ≤ sp ∧ sp < 5) (hnx : sp ≤ nx ∧ nx < 5) (hlf : 0 ≤ lf ∧ lf ≤ ok) : cP l yX0_worthOfTaking wsX0_worthOfTaking rm_X0_worthOfTaking [.ref oa, iv wk, iv sp, iv nx, iv lf] D (tyL cI cS cJ) [(oa, ob 0 [.ref op, .ref od, .ref ow, .ref ol, iv fw, iv fr, iv ew, iv gp, iv rm, iv os, iv ok, iv ml]), (op, ar cI 5 pr), (od, ar cI 5 sd), (ow, ar cI 3050 wo), (ol, ar cI 6 la)] (zI (cand (pv pr sd gp rm ml (ew - wk - 1).toNat) pr sd gp sp 0 lf nx)) := by
  refine en_P (cc := cX0_worthOfTaking) (maxL := 5) (ret := (some .int)) (by decide) rfl (Nat.le_of_ble_eq_true rfl) ?_
  intro p e s m args below meth c ls hX hE hP hK hl Q hQ
  obtain ⟨hx, hb, hr, hml, hts, hown, hlocks, hnm⟩ := hX
  have hown : s.vm.findClass RX0 = some m.cls := hown
  have hl : lv_has ls 5 [(0, .ref oa), (1, iv wk), (2, iv sp), (3, iv nx), (4, iv lf)] := hl
  have inX0 : ∀ w ∈ u_ws RX0 TX0 12, w ∈ wsX0_worthOfTaking := by decide +kernel
  have w0 : (Cond.fieldLink RX0 52 RX0 "gap" "I").before args s = true := hts _ (by decide +kernel)
  obtain ⟨hfw, hfr, hgp, hrm, hos, hok, hpr, hsd⟩ := id hB
  have hd0 : ∀ j : Int, 0 ≤ j → j < 5 → 0 ≤ sd j := fun j a b => (hsd j a b).1
  have hp0 : ∀ j : Int, 0 ≤ j → j < 5 → 0 ≤ pr j := fun j a b => (hpr j a b).1
  have htk := pv_take (pr := pr) (d := sd) (g := gp) (r := rm) (ml := ml) hd0 hp0 hrm.1 hgp.1 (ew - wk - 1).toNat (b := sp) (i := nx) (l := lf) (by omega) (by omega) (by omega) hlf.1
  rw [show (ew - wk - 1).toNat + 1 = (ew - wk).toNat by omega] at htk
  refine lv_aload_n hx hb dX0_worthOfTaking_0 rfl (lv_at hl 0 rfl) ?_
  refine lv_iload_n hx hb dX0_worthOfTaking_1 rfl (lv_at hl 1 rfl) ?_
  refine lv_iload_n hx hb dX0_worthOfTaking_2 rfl (lv_at hl 3 rfl) ?_
  refine lv_iload_n hx hb dX0_worthOfTaking_3 rfl (lv_at hl 3 rfl) ?_
  refine lv_iload_n hx hb dX0_worthOfTaking_4 rfl (lv_at hl 2 rfl) ?_
  refine i_icmp_le (tgt := 15) hx hb ⟨by omega, by omega⟩ ⟨by omega, by omega⟩ dX0_worthOfTaking_5 (by decide) (fun c_1 => ?_) (fun c_1 => ?_)
  · skip
    refine lv_iconst (v := zI 1) hx hb dX0_worthOfTaking_15 rfl ?_
    refine lv_iload hx hb dX0_worthOfTaking_16 (lv_at hl 4 rfl) ?_
    refine ms_P (va_runV (As := [iv wk, iv nx, iv 1, iv lf]) (rest := []) ⟨hx, hb, hml, hown, hts⟩ (mt_X0_worthOfKeeping l D cI cS cJ oa op od ow ol pr sd wo la fw fr ew gp rm os ok ml wk nx 1 lf (wk + 1) (hB) (hm6) (hG) (by omega) (by omega) (by omega) (by omega)) (cwV 4 hts gX0_worthOfTaking_X0_worthOfKeeping rfl rfl rfl (by decide +kernel) ⟨Nat.le_of_ble_eq_true rfl, Nat.le_of_ble_eq_true rfl⟩) (pc_V (ci := 0) (q0 := 0) hK (hP.sub (ws' := [(oa, ob 0 [.ref op, .ref od, .ref ow, .ref ol, iv fw, iv fr, iv ew, iv gp, iv rm, iv os, iv ok, iv ml]), (op, ar cI 5 pr), (od, ar cI 5 sd), (ow, ar cI 3050 wo), (ol, ar cI 6 la)]) [0, 1, 2, 3, 4] rfl) rfl rfl (pcP_S hE hK (hP.sub (ws' := [(oa, ob 0 [.ref op, .ref od, .ref ow, .ref ol, iv fw, iv fr, iv ew, iv gp, iv rm, iv os, iv ok, iv ml]), (op, ar cI 5 pr), (od, ar cI 5 sd), (ow, ar cI 3050 wo), (ol, ar cI 6 la)]) [0, 1, 2, 3, 4] rfl))) rfl rfl hl.1 rfl (lv_room (Nat.le_of_ble_eq_true rfl)) dX0_worthOfTaking_18 ⟨Nat.le_of_ble_eq_true rfl, Nat.le_of_ble_eq_true rfl⟩) ?_
    subst hQ
    exact r_P hx hb hr hlocks (by rfl) dX0_worthOfTaking_21 (by first | (rw [if_pos (by assumption)] at htk; rw [htk]) | (rw [if_neg (by assumption)] at htk; rw [htk]) | (rw [if_pos (by omega)] at htk; rw [htk]) | (rw [if_neg (by omega)] at htk; rw [htk]))
  · skip
    refine lv_aload_n hx hb dX0_worthOfTaking_8 rfl (lv_at hl 0 rfl) ?_
    refine va_get (D := D) (ci := 0) (v := iv gp) (C := RX0) (T := TX0) (N := 12) hx hb hts inX0 hown hK hP 0 rfl rfl 7 (by decide) w0 (fun _ h9 => h9) rfl dX0_worthOfTaking_9 ?_
    refine lv_goto (tgt := 16) hx hb dX0_worthOfTaking_12 (by decide) ?_
    refine lv_iload hx hb dX0_worthOfTaking_16 (lv_at hl 4 rfl) ?_
    refine ms_P (va_runV (As := [iv wk, iv nx, iv gp, iv lf]) (rest := []) ⟨hx, hb, hml, hown, hts⟩ (mt_X0_worthOfKeeping l D cI cS cJ oa op od ow ol pr sd wo la fw fr ew gp rm os ok ml wk nx gp lf (wk + 1) (hB) (hm6) (hG) (by omega) (by omega) (by omega) (by omega)) (cwV 4 hts gX0_worthOfTaking_X0_worthOfKeeping rfl rfl rfl (by decide +kernel) ⟨Nat.le_of_ble_eq_true rfl, Nat.le_of_ble_eq_true rfl⟩) (pc_V (ci := 0) (q0 := 0) hK (hP.sub (ws' := [(oa, ob 0 [.ref op, .ref od, .ref ow, .ref ol, iv fw, iv fr, iv ew, iv gp, iv rm, iv os, iv ok, iv ml]), (op, ar cI 5 pr), (od, ar cI 5 sd), (ow, ar cI 3050 wo), (ol, ar cI 6 la)]) [0, 1, 2, 3, 4] rfl) rfl rfl (pcP_S hE hK (hP.sub (ws' := [(oa, ob 0 [.ref op, .ref od, .ref ow, .ref ol, iv fw, iv fr, iv ew, iv gp, iv rm, iv os, iv ok, iv ml]), (op, ar cI 5 pr), (od, ar cI 5 sd), (ow, ar cI 3050 wo), (ol, ar cI 6 la)]) [0, 1, 2, 3, 4] rfl))) rfl rfl hl.1 rfl (lv_room (Nat.le_of_ble_eq_true rfl)) dX0_worthOfTaking_18 ⟨Nat.le_of_ble_eq_true rfl, Nat.le_of_ble_eq_true rfl⟩) ?_
    subst hQ
    exact r_P hx hb hr hlocks (by rfl) dX0_worthOfTaking_21 (by first | (rw [if_pos (by assumption)] at htk; rw [htk]) | (rw [if_neg (by assumption)] at htk; rw [htk]) | (rw [if_pos (by omega)] at htk; rw [htk]) | (rw [if_neg (by omega)] at htk; rw [htk]))

abbrev rm_X0_worthOfChoosing : Room := { frames := 4, cells := 0, slots := 0, locals := 96 }
set_option maxHeartbeats 4000000 in
set_option maxRecDepth 100000 in
/-- the best of all steps from one on -/
theorem mt_X0_worthOfChoosing (l : Launch) (D : va_G) (cI cS cJ : ClassId) (oa : Nat) (op : Nat) (od : Nat) (ow : Nat) (ol : Nat) (pr : Int → Int) (sd : Int → Int) (wo : Int → Int) (la : Int → Int) (fw : Int) (fr : Int) (ew : Int) (gp : Int) (rm : Int) (os : Int) (ok : Int) (ml : Int) (wk : Int) (sp : Int) (lf : Int) (hB : PB pr sd fw fr ew gp rm os ok) (hm6 : 0 ≤ ml ∧ ml ≤ 60) (hG : GW pr sd gp rm ml ew os ok wo (wk + 1)) (hwk : 0 ≤ wk ∧ wk < ew) (hsp : os ≤ sp ∧ sp < 5) (hlf : 0 ≤ lf ∧ lf ≤ ok) : cP l yX0_worthOfChoosing wsX0_worthOfChoosing rm_X0_worthOfChoosing [.ref oa, iv wk, iv sp, iv lf] D (tyL cI cS cJ) [(oa, ob 0 [.ref op, .ref od, .ref ow, .ref ol, iv fw, iv fr, iv ew, iv gp, iv rm, iv os, iv ok, iv ml]), (op, ar cI 5 pr), (od, ar cI 5 sd), (ow, ar cI 3050 wo), (ol, ar cI 6 la)] (zI (pv pr sd gp rm ml (ew - wk).toNat sp 0 lf)) := by
  refine en_P (cc := cX0_worthOfChoosing) (maxL := 6) (ret := (some .int)) (by decide) rfl (Nat.le_of_ble_eq_true rfl) ?_
  intro p e s m args below meth c ls hX hE hP hK hl Q hQ
  obtain ⟨hx, hb, hr, hml, hts, hown, hlocks, hnm⟩ := hX
  have hown : s.vm.findClass RX0 = some m.cls := hown
  have hl : lv_has ls 6 [(0, .ref oa), (1, iv wk), (2, iv sp), (3, iv lf)] := hl
  have w0 : (Cond.methodLink RX0 106 Lib.Math.max.name).before args s = true := hts _ (by decide +kernel)
  have w1 : (Cond.static Lib.Math.max.name).before args s = true := hts _ (by decide +kernel)
  have w2 : (Cond.initialized "java/lang/Math").before args s = true := hts _ (by decide +kernel)
  have w3 : (Cond.code Lib.Math.max.name Lib.Math.max.code 2 (some .int)).before args s = true := hts _ (by decide +kernel)
  obtain ⟨hfw, hfr, hgp, hrm, hos, hok, hpr, hsd⟩ := id hB
  have hd0 : ∀ j : Int, 0 ≤ j → j < 5 → 0 ≤ sd j := fun j a b => (hsd j a b).1
  have hp0 : ∀ j : Int, 0 ≤ j → j < 5 → 0 ≤ pr j := fun j a b => (hpr j a b).1
  refine lv_iconst (v := zI (-1)) hx hb dX0_worthOfChoosing_0 rfl ?_
  refine lv_istore (lv' := [(4, iv (-1)), (0, .ref oa), (1, iv wk), (2, iv sp), (3, iv lf)]) hx hb dX0_worthOfChoosing_1 hl (by decide) rfl (fun ls hl => ?_)
  refine lv_iload_n hx hb dX0_worthOfChoosing_3 rfl (lv_at hl 3 rfl) ?_
  refine lv_istore (lv' := [(5, iv sp), (4, iv (-1)), (0, .ref oa), (1, iv wk), (2, iv sp), (3, iv lf)]) hx hb dX0_worthOfChoosing_4 hl (by decide) rfl (fun ls hl => ?_)
  have J_6 : ∀ (n_6 : Nat) (nx : Int) (gr : Int) (hnx : sp ≤ nx ∧ nx ≤ 5) (hgr : gr = mxf (cand (pv pr sd gp rm ml (ew - wk - 1).toNat) pr sd gp sp 0 lf) sp (nx - sp).toNat) (hm_6 : ((5 - nx).toNat) < n_6) (ls : Array Slot) (hl : lv_has ls 6 [(0, .ref oa), (1, iv wk), (2, iv sp), (3, iv lf), (4, iv gr), (5, iv nx)]), W p l e rm_X0_worthOfChoosing s m args below meth c s.heap [] 0 0 Q (F0 m 6 ls []) := by
    intro n_6
    induction n_6 with
    | zero => intro nx gr hnx hgr hm_6 ls hl; exact absurd hm_6 (Nat.not_lt_zero _)
    | succ n_6 ih_6 =>
      intro nx gr hnx hgr hm_6 ls hl
      have hg0 : -1 ≤ gr := by rw [hgr]; exact mxf_ge _ _ _
      have hg1 : gr ≤ lf * 1000 := by rw [hgr]; exact mxf_le (by omega) _ (fun j hj => (cand_in (g := gp) (ml := ml) hd0 hpr hrm _ (by omega) (by omega) hlf.1).2)
      refine lv_iload hx hb dX0_worthOfChoosing_6 (lv_at hl 5 rfl) ?_
      refine lv_iconst (v := zI 5) hx hb dX0_worthOfChoosing_8 rfl ?_
      refine i_icmp_ge (tgt := 34) hx hb ⟨by omega, by omega⟩ ⟨by decide, by decide⟩ dX0_worthOfChoosing_9 (by decide) (fun c_1 => ?_) (fun c_1 => ?_)
      · skip
        refine lv_iload hx hb dX0_worthOfChoosing_34 (lv_at hl 4 rfl) ?_
        subst hQ
        exact r_P hx hb hr hlocks (by rfl) dX0_worthOfChoosing_36 (by rw [hgr, show nx = 5 by omega, show (ew - wk).toNat = (ew - wk - 1).toNat + 1 by omega]; rfl)
      · skip
        refine lv_iload hx hb dX0_worthOfChoosing_12 (lv_at hl 4 rfl) ?_
        refine lv_aload_n hx hb dX0_worthOfChoosing_14 rfl (lv_at hl 0 rfl) ?_
        refine lv_iload_n hx hb dX0_worthOfChoosing_15 rfl (lv_at hl 1 rfl) ?_
        refine lv_iload_n hx hb dX0_worthOfChoosing_16 rfl (lv_at hl 2 rfl) ?_
        refine lv_iload hx hb dX0_worthOfChoosing_17 (lv_at hl 5 rfl) ?_
        refine lv_iload_n hx hb dX0_worthOfChoosing_19 rfl (lv_at hl 3 rfl) ?_
        refine ms_P (va_runV (As := [iv wk, iv sp, iv nx, iv lf]) (rest := [iv gr]) ⟨hx, hb, hml, hown, hts⟩ (mt_X0_worthOfTaking l D cI cS cJ oa op od ow ol pr sd wo la fw fr ew gp rm os ok ml wk sp nx lf (hB) (hm6) (hG) (by omega) (by omega) (by omega) (by omega)) (cwV 4 hts gX0_worthOfChoosing_X0_worthOfTaking rfl rfl rfl (by decide +kernel) ⟨Nat.le_of_ble_eq_true rfl, Nat.le_of_ble_eq_true rfl⟩) (pc_V (ci := 0) (q0 := 0) hK (hP.sub (ws' := [(oa, ob 0 [.ref op, .ref od, .ref ow, .ref ol, iv fw, iv fr, iv ew, iv gp, iv rm, iv os, iv ok, iv ml]), (op, ar cI 5 pr), (od, ar cI 5 sd), (ow, ar cI 3050 wo), (ol, ar cI 6 la)]) [0, 1, 2, 3, 4] rfl) rfl rfl (pcP_S hE hK (hP.sub (ws' := [(oa, ob 0 [.ref op, .ref od, .ref ow, .ref ol, iv fw, iv fr, iv ew, iv gp, iv rm, iv os, iv ok, iv ml]), (op, ar cI 5 pr), (od, ar cI 5 sd), (ow, ar cI 3050 wo), (ol, ar cI 6 la)]) [0, 1, 2, 3, 4] rfl))) rfl rfl hl.1 rfl (lv_room (Nat.le_of_ble_eq_true rfl)) dX0_worthOfChoosing_20 ⟨Nat.le_of_ble_eq_true rfl, Nat.le_of_ble_eq_true rfl⟩) ?_
        have hcd := cand_in (g := gp) (ml := ml) (b := sp) (i := nx) (l := lf) (w := 0) hd0 hpr hrm (ew - wk - 1).toNat (by omega) (by omega) hlf.1
        refine i_max hx hb (hml.trans hl.1.symm) hown w0 w1 w2 w3 ⟨Nat.le_of_ble_eq_true rfl, Nat.le_of_ble_eq_true rfl, Nat.le_of_ble_eq_true rfl, Nat.le_of_ble_eq_true rfl⟩ (Nat.le_of_ble_eq_true rfl) ⟨by omega, by omega⟩ ⟨by omega, by omega⟩ dX0_worthOfChoosing_23 ?_
        refine lv_istore (lv' := [(4, iv (max gr (cand (pv pr sd gp rm ml (ew - wk - 1).toNat) pr sd gp sp 0 lf nx))), (0, .ref oa), (1, iv wk), (2, iv sp), (3, iv lf), (5, iv nx)]) hx hb dX0_worthOfChoosing_26 hl (by decide) rfl (fun ls hl => ?_)
        refine i_iinc (n := 1) (lv' := [(5, iv (nx + 1)), (4, iv (max gr (cand (pv pr sd gp rm ml (ew - wk - 1).toNat) pr sd gp sp 0 lf nx))), (0, .ref oa), (1, iv wk), (2, iv sp), (3, iv lf)]) hx hb dX0_worthOfChoosing_28 hl (k := 5) rfl (by decide) rfl (fun ls hl => ?_)
        refine lv_goto (tgt := 6) hx hb dX0_worthOfChoosing_31 (by decide) ?_
        exact ih_6 (nx + 1) (max gr (cand (pv pr sd gp rm ml (ew - wk - 1).toNat) pr sd gp sp 0 lf nx)) (by omega) (by rw [mxf_step hnx.1, ← hgr]) (by omega) ls (lv_sub hl [2, 3, 4, 5, 1, 0] rfl)
  exact J_6 _ sp (-1) (by omega) (by rw [show (sp - sp).toNat = 0 by omega]; rfl) (Nat.lt_succ_self _) ls (lv_sub hl [2, 3, 4, 5, 1, 0] rfl)

abbrev rm_X0_tellWorths : Room := { frames := 5, cells := 0, slots := 0, locals := 121 }
set_option maxHeartbeats 4000000 in
set_option maxRecDepth 100000 in
/-- the table is told from the last week back -/
theorem mt_X0_tellWorths (l : Launch) (D : va_G) (cI cS cJ : ClassId) (oa : Nat) (op : Nat) (od : Nat) (ow : Nat) (ol : Nat) (pr : Int → Int) (sd : Int → Int) (wo : Int → Int) (la : Int → Int) (fw : Int) (fr : Int) (ew : Int) (gp : Int) (rm : Int) (os : Int) (ok : Int) (ml : Int) (mn : Int) (hB : PB pr sd fw fr ew gp rm os ok) (hmn : 0 ≤ mn ∧ mn ≤ 60) : cM l yX0_tellWorths wsX0_tellWorths rm_X0_tellWorths [.ref oa, iv mn] D (tyL cI cS cJ) [(oa, ob 0 [.ref op, .ref od, .ref ow, .ref ol, iv fw, iv fr, iv ew, iv gp, iv rm, iv os, iv ok, iv ml]), (op, ar cI 5 pr), (od, ar cI 5 sd), (ow, ar cI 3050 wo), (ol, ar cI 6 la)] (fun r_ w_ => ∃ wo2 : Int → Int, (GW pr sd gp rm mn ew os ok wo2 fr) ∧ r_ = none ∧ w_ = [(oa, ob 0 [.ref op, .ref od, .ref ow, .ref ol, iv fw, iv fr, iv ew, iv gp, iv rm, iv os, iv ok, iv mn]), (op, ar cI 5 pr), (od, ar cI 5 sd), (ow, ar cI 3050 wo2), (ol, ar cI 6 la)]) 0 0 := by
  refine en_M (cc := cX0_tellWorths) (maxL := 5) (ret := none) (by decide) rfl (Nat.le_of_ble_eq_true rfl) ?_
  intro p e s m args below meth c ls A hX hE hP hK hD hS hA hl Q hQ
  obtain ⟨hx, hb, hr, hml, hts, hown, hlocks, hnm⟩ := hX
  have hown : s.vm.findClass RX0 = some m.cls := hown
  have hl : lv_has ls 5 [(0, .ref oa), (1, iv mn)] := hl
  have inX0 : ∀ w ∈ u_ws RX0 TX0 12, w ∈ wsX0_tellWorths := by decide +kernel
  have w0 : (Cond.fieldLink RX0 94 RX0 "mostLeft" "I").before args s = true := hts _ (by decide +kernel)
  have w1 : (Cond.fieldLink RX0 46 RX0 "endWeek" "I").before args s = true := hts _ (by decide +kernel)
  have w2 : (Cond.fieldLink RX0 66 RX0 "freeWeek" "I").before args s = true := hts _ (by decide +kernel)
  have w3 : (Cond.fieldLink RX0 72 RX0 "ownStep" "I").before args s = true := hts _ (by decide +kernel)
  have w4 : (Cond.fieldLink RX0 79 RX0 "ownStock" "I").before args s = true := hts _ (by decide +kernel)
  have w5 : (Cond.fieldLink RX0 18 RX0 "worths" "[I").before args s = true := hts _ (by decide +kernel)
  obtain ⟨hfw, hfr, hgp, hrm, hos, hok, hpr, hsd⟩ := id hB
  have hd0 : ∀ j : Int, 0 ≤ j → j < 5 → 0 ≤ sd j := fun j a b => (hsd j a b).1
  have hp0 : ∀ j : Int, 0 ≤ j → j < 5 → 0 ≤ pr j := fun j a b => (hpr j a b).1
  refine lv_aload_n hx hb dX0_tellWorths_0 rfl (lv_at hl 0 rfl) ?_
  refine lv_iload_n hx hb dX0_tellWorths_1 rfl (lv_at hl 1 rfl) ?_
  refine va_put (D := D) (ci := 0) (v := iv mn) (ty := .int) (C := RX0) (T := TX0) (N := 12) hx hb hts inX0 tyX0 tyX0_ok nmX0 hown hK hP hD hS 0 rfl rfl 11 (by decide) w0 (fun _ h9 => h9) rfl (by decide +kernel) rfl rfl (Nat.le_of_ble_eq_true rfl) dX0_tellWorths_2 (fun H locs hP hD hS => ?_)
  have hP : va_P D vwCl [(oa, ob 0 [.ref op, .ref od, .ref ow, .ref ol, iv fw, iv fr, iv ew, iv gp, iv rm, iv os, iv ok, iv mn]), (op, ar cI 5 pr), (od, ar cI 5 sd), (ow, ar cI 3050 wo), (ol, ar cI 6 la)] H := hP
  have hD : va_D A [(oa, ob 0 [.ref op, .ref od, .ref ow, .ref ol, iv fw, iv fr, iv ew, iv gp, iv rm, iv os, iv ok, iv mn]), (op, ar cI 5 pr), (od, ar cI 5 sd), (ow, ar cI 3050 wo), (ol, ar cI 6 la)] := hD
  refine lv_aload_n hx hb dX0_tellWorths_5 rfl (lv_at hl 0 rfl) ?_
  refine va_get (D := D) (ci := 0) (v := iv ew) (C := RX0) (T := TX0) (N := 12) hx hb hts inX0 hown hK hP 0 rfl rfl 6 (by decide) w1 (fun _ h9 => h9) rfl dX0_tellWorths_6 ?_
  refine lv_iconst (v := zI 1) hx hb dX0_tellWorths_9 rfl ?_
  refine i_isub hx hb dX0_tellWorths_10 ?_
  refine lv_istore_n (lv' := [(2, iv (ew - 1)), (0, .ref oa), (1, iv mn)]) hx hb dX0_tellWorths_11 rfl hl (by decide) rfl (fun ls hl => ?_)
  have J_12 : ∀ (n_12 : Nat) (wk : Int) (wo1 : Int → Int) (hwk : fr - 1 ≤ wk ∧ wk ≤ ew - 1) (hG : GW pr sd gp rm mn ew os ok wo1 (wk + 1)) (hm_12 : ((wk + 1 - fr).toNat) < n_12) (H : Heap) (locs : List Loc) (hP : va_P D vwCl [(oa, ob 0 [.ref op, .ref od, .ref ow, .ref ol, iv fw, iv fr, iv ew, iv gp, iv rm, iv os, iv ok, iv mn]), (op, ar cI 5 pr), (od, ar cI 5 sd), (ow, ar cI 3050 wo1), (ol, ar cI 6 la)] H) (hD : va_D A [(oa, ob 0 [.ref op, .ref od, .ref ow, .ref ol, iv fw, iv fr, iv ew, iv gp, iv rm, iv os, iv ok, iv mn]), (op, ar cI 5 pr), (od, ar cI 5 sd), (ow, ar cI 3050 wo1), (ol, ar cI 6 la)]) (hS : va_S A s.heap H locs) (ls : Array Slot) (hl : lv_has ls 5 [(0, .ref oa), (1, iv mn), (2, iv wk)]), W p l e rm_X0_tellWorths s m args below meth c H locs 0 0 Q (F0 m 12 ls []) := by
    intro n_12
    induction n_12 with
    | zero => intro wk wo1 hwk hG hm_12 H locs hP hD hS ls hl; exact absurd hm_12 (Nat.not_lt_zero _)
    | succ n_12 ih_12 =>
      intro wk wo1 hwk hG hm_12 H locs hP hD hS ls hl
      refine lv_iload_n hx hb dX0_tellWorths_12 rfl (lv_at hl 2 rfl) ?_
      refine lv_aload_n hx hb dX0_tellWorths_13 rfl (lv_at hl 0 rfl) ?_
      refine va_get (D := D) (ci := 0) (v := iv fr) (C := RX0) (T := TX0) (N := 12) hx hb hts inX0 hown hK hP 0 rfl rfl 5 (by decide) w2 (fun _ h9 => h9) rfl dX0_tellWorths_14 ?_
      refine i_icmp_lt (tgt := 80) hx hb ⟨by omega, by omega⟩ ⟨by omega, by omega⟩ dX0_tellWorths_17 (by decide) (fun c_1 => ?_) (fun c_1 => ?_)
      · skip
        subst hQ
        exact r_Mv hx hb hr hlocks dX0_tellWorths_80 hS (hP.sub (ws' := [(oa, ob 0 [.ref op, .ref od, .ref ow, .ref ol, iv fw, iv fr, iv ew, iv gp, iv rm, iv os, iv ok, iv mn]), (op, ar cI 5 pr), (od, ar cI 5 sd), (ow, ar cI 3050 wo1), (ol, ar cI 6 la)]) [0, 1, 2, 3, 4] rfl) (hD.sub (ws' := [(oa, ob 0 [.ref op, .ref od, .ref ow, .ref ol, iv fw, iv fr, iv ew, iv gp, iv rm, iv os, iv ok, iv mn]), (op, ar cI 5 pr), (od, ar cI 5 sd), (ow, ar cI 3050 wo1), (ol, ar cI 6 la)]) [0, 1, 2, 3, 4] (by decide) rfl) (⟨wo1, (hG.mono (by omega)), rfl, rfl⟩) (Nat.le_of_ble_eq_true rfl) (Nat.le_of_ble_eq_true rfl)
      · skip
        refine lv_aload_n hx hb dX0_tellWorths_20 rfl (lv_at hl 0 rfl) ?_
        refine va_get (D := D) (ci := 0) (v := iv os) (C := RX0) (T := TX0) (N := 12) hx hb hts inX0 hown hK hP 0 rfl rfl 9 (by decide) w3 (fun _ h9 => h9) rfl dX0_tellWorths_21 ?_
        refine lv_istore_n (lv' := [(3, iv os), (0, .ref oa), (1, iv mn), (2, iv wk)]) hx hb dX0_tellWorths_24 rfl hl (by decide) rfl (fun ls hl => ?_)
        have J_25 : ∀ (n_25 : Nat) (sp : Int) (wo1 : Int → Int) (hsp : os ≤ sp ∧ sp ≤ 5) (hG : GW pr sd gp rm mn ew os ok wo1 (wk + 1)) (hP1 : GP pr sd gp rm mn ew os ok wo1 wk sp 0) (hm_25 : ((5 - sp).toNat) < n_25) (H : Heap) (locs : List Loc) (hP : va_P D vwCl [(oa, ob 0 [.ref op, .ref od, .ref ow, .ref ol, iv fw, iv fr, iv ew, iv gp, iv rm, iv os, iv ok, iv mn]), (op, ar cI 5 pr), (od, ar cI 5 sd), (ow, ar cI 3050 wo1), (ol, ar cI 6 la)] H) (hD : va_D A [(oa, ob 0 [.ref op, .ref od, .ref ow, .ref ol, iv fw, iv fr, iv ew, iv gp, iv rm, iv os, iv ok, iv mn]), (op, ar cI 5 pr), (od, ar cI 5 sd), (ow, ar cI 3050 wo1), (ol, ar cI 6 la)]) (hS : va_S A s.heap H locs) (ls : Array Slot) (hl : lv_has ls 5 [(0, .ref oa), (1, iv mn), (2, iv wk), (3, iv sp)]), W p l e rm_X0_tellWorths s m args below meth c H locs 0 0 Q (F0 m 25 ls []) := by
          intro n_25
          induction n_25 with
          | zero => intro sp wo1 hsp hG hP1 hm_25 H locs hP hD hS ls hl; exact absurd hm_25 (Nat.not_lt_zero _)
          | succ n_25 ih_25 =>
            intro sp wo1 hsp hG hP1 hm_25 H locs hP hD hS ls hl
            refine lv_iload_n hx hb dX0_tellWorths_25 rfl (lv_at hl 3 rfl) ?_
            refine lv_iconst (v := zI 5) hx hb dX0_tellWorths_26 rfl ?_
            refine i_icmp_ge (tgt := 74) hx hb ⟨by omega, by omega⟩ ⟨by decide, by decide⟩ dX0_tellWorths_27 (by decide) (fun c_2 => ?_) (fun c_2 => ?_)
            · skip
              refine i_iinc (n := (-1)) (lv' := [(2, iv (wk + (-1))), (0, .ref oa), (1, iv mn), (3, iv sp)]) hx hb dX0_tellWorths_74 hl (k := 2) rfl (by decide) rfl (fun ls hl => ?_)
              refine lv_goto (tgt := 12) hx hb dX0_tellWorths_77 (by decide) ?_
              exact ih_12 (wk + (-1)) wo1 (by omega) (by rw [show wk + -1 + 1 = wk by omega]; exact hG.down hP1 (by omega)) (by omega) _ _ (hP.sub [0, 1, 2, 3, 4] rfl) (hD.sub [0, 1, 2, 3, 4] (by decide) rfl) hS ls (lv_sub hl [1, 2, 0] rfl)
            · skip
              refine lv_iconst (v := zI 0) hx hb dX0_tellWorths_30 rfl ?_
              refine lv_istore (lv' := [(4, iv 0), (0, .ref oa), (1, iv mn), (2, iv wk), (3, iv sp)]) hx hb dX0_tellWorths_31 hl (by decide) rfl (fun ls hl => ?_)
              have J_33 : ∀ (n_33 : Nat) (lf : Int) (wo1 : Int → Int) (hlf : 0 ≤ lf ∧ lf ≤ ok + 1) (hG : GW pr sd gp rm mn ew os ok wo1 (wk + 1)) (hP1 : GP pr sd gp rm mn ew os ok wo1 wk sp lf) (hm_33 : ((ok + 1 - lf).toNat) < n_33) (H : Heap) (locs : List Loc) (hP : va_P D vwCl [(oa, ob 0 [.ref op, .ref od, .ref ow, .ref ol, iv fw, iv fr, iv ew, iv gp, iv rm, iv os, iv ok, iv mn]), (op, ar cI 5 pr), (od, ar cI 5 sd), (ow, ar cI 3050 wo1), (ol, ar cI 6 la)] H) (hD : va_D A [(oa, ob 0 [.ref op, .ref od, .ref ow, .ref ol, iv fw, iv fr, iv ew, iv gp, iv rm, iv os, iv ok, iv mn]), (op, ar cI 5 pr), (od, ar cI 5 sd), (ow, ar cI 3050 wo1), (ol, ar cI 6 la)]) (hS : va_S A s.heap H locs) (ls : Array Slot) (hl : lv_has ls 5 [(0, .ref oa), (1, iv mn), (2, iv wk), (3, iv sp), (4, iv lf)]), W p l e rm_X0_tellWorths s m args below meth c H locs 0 0 Q (F0 m 33 ls []) := by
                intro n_33
                induction n_33 with
                | zero => intro lf wo1 hlf hG hP1 hm_33 H locs hP hD hS ls hl; exact absurd hm_33 (Nat.not_lt_zero _)
                | succ n_33 ih_33 =>
                  intro lf wo1 hlf hG hP1 hm_33 H locs hP hD hS ls hl
                  refine lv_iload hx hb dX0_tellWorths_33 (lv_at hl 4 rfl) ?_
                  refine lv_aload_n hx hb dX0_tellWorths_35 rfl (lv_at hl 0 rfl) ?_
                  refine va_get (D := D) (ci := 0) (v := iv ok) (C := RX0) (T := TX0) (N := 12) hx hb hts inX0 hown hK hP 0 rfl rfl 10 (by decide) w4 (fun _ h9 => h9) rfl dX0_tellWorths_36 ?_
                  refine i_icmp_gt (tgt := 68) hx hb ⟨by omega, by omega⟩ ⟨by omega, by omega⟩ dX0_tellWorths_39 (by decide) (fun c_3 => ?_) (fun c_3 => ?_)
                  · skip
                    refine i_iinc (n := 1) (lv' := [(3, iv (sp + 1)), (0, .ref oa), (1, iv mn), (2, iv wk), (4, iv lf)]) hx hb dX0_tellWorths_68 hl (k := 3) rfl (by decide) rfl (fun ls hl => ?_)
                    refine lv_goto (tgt := 25) hx hb dX0_tellWorths_71 (by decide) ?_
                    exact ih_25 (sp + 1) wo1 (by omega) (hG) (hP1.next (by omega)) (by omega) _ _ (hP.sub [0, 1, 2, 3, 4] rfl) (hD.sub [0, 1, 2, 3, 4] (by decide) rfl) hS ls (lv_sub hl [1, 2, 3, 0] rfl)
                  · skip
                    refine lv_aload_n hx hb dX0_tellWorths_42 rfl (lv_at hl 0 rfl) ?_
                    refine va_get (D := D) (ci := 0) (v := .ref ow) (C := RX0) (T := TX0) (N := 12) hx hb hts inX0 hown hK hP 0 rfl rfl 2 (by decide) w5 (fun _ h9 => h9) rfl dX0_tellWorths_43 ?_
                    refine lv_iload_n hx hb dX0_tellWorths_46 rfl (lv_at hl 2 rfl) ?_
                    refine lv_iload_n hx hb dX0_tellWorths_47 rfl (lv_at hl 3 rfl) ?_
                    refine lv_iload hx hb dX0_tellWorths_48 (lv_at hl 4 rfl) ?_
                    refine ms_P (va_runS (As := [iv wk, iv sp, iv lf]) (rest := [.ref ow]) ⟨hx, hb, hml, hown, hts⟩ (mt_X0_placeOf l D cI cS cJ wk sp lf) (va_cwS 3 hts gX0_tellWorths_X0_placeOf rfl rfl rfl (by decide +kernel) ⟨Nat.le_of_ble_eq_true rfl, Nat.le_of_ble_eq_true rfl⟩) (pcP_S hE hK (hP.sub (ws' := []) [] rfl)) rfl rfl hl.1 rfl (lv_room (Nat.le_of_ble_eq_true rfl)) dX0_tellWorths_50 ⟨Nat.le_of_ble_eq_true rfl, Nat.le_of_ble_eq_true rfl⟩) ?_
                    refine lv_aload_n hx hb dX0_tellWorths_53 rfl (lv_at hl 0 rfl) ?_
                    refine lv_iload_n hx hb dX0_tellWorths_54 rfl (lv_at hl 2 rfl) ?_
                    refine lv_iload_n hx hb dX0_tellWorths_55 rfl (lv_at hl 3 rfl) ?_
                    refine lv_iload hx hb dX0_tellWorths_56 (lv_at hl 4 rfl) ?_
                    refine ms_P (va_runV (As := [iv wk, iv sp, iv lf]) (rest := [iv ((wk * 5 + sp) * 61 + lf), .ref ow]) ⟨hx, hb, hml, hown, hts⟩ (mt_X0_worthOfChoosing l D cI cS cJ oa op od ow ol pr sd wo1 la fw fr ew gp rm os ok mn wk sp lf (hB) (hmn) (hG) (by omega) (by omega) (by omega)) (cwV 3 hts gX0_tellWorths_X0_worthOfChoosing rfl rfl rfl (by decide +kernel) ⟨Nat.le_of_ble_eq_true rfl, Nat.le_of_ble_eq_true rfl⟩) (pc_V (ci := 0) (q0 := 0) hK (hP.sub (ws' := [(oa, ob 0 [.ref op, .ref od, .ref ow, .ref ol, iv fw, iv fr, iv ew, iv gp, iv rm, iv os, iv ok, iv mn]), (op, ar cI 5 pr), (od, ar cI 5 sd), (ow, ar cI 3050 wo1), (ol, ar cI 6 la)]) [0, 1, 2, 3, 4] rfl) rfl rfl (pcP_S hE hK (hP.sub (ws' := [(oa, ob 0 [.ref op, .ref od, .ref ow, .ref ol, iv fw, iv fr, iv ew, iv gp, iv rm, iv os, iv ok, iv mn]), (op, ar cI 5 pr), (od, ar cI 5 sd), (ow, ar cI 3050 wo1), (ol, ar cI 6 la)]) [0, 1, 2, 3, 4] rfl))) rfl rfl hl.1 rfl (lv_room (Nat.le_of_ble_eq_true rfl)) dX0_tellWorths_58 ⟨Nat.le_of_ble_eq_true rfl, Nat.le_of_ble_eq_true rfl⟩) ?_
                    refine i_iast hx hb hK hP hD hS 3 0 rfl rfl (by omega) (by omega) (by decide) dX0_tellWorths_61 (fun H locs hP hD hS => ?_)
                    have hP : va_P D vwCl [(oa, ob 0 [.ref op, .ref od, .ref ow, .ref ol, iv fw, iv fr, iv ew, iv gp, iv rm, iv os, iv ok, iv mn]), (op, ar cI 5 pr), (od, ar cI 5 sd), (ow, ar cI 3050 (ui wo1 ((wk * 5 + sp) * 61 + lf) (pv pr sd gp rm mn (ew - wk).toNat sp 0 lf))), (ol, ar cI 6 la)] H := hP
                    have hD : va_D A [(oa, ob 0 [.ref op, .ref od, .ref ow, .ref ol, iv fw, iv fr, iv ew, iv gp, iv rm, iv os, iv ok, iv mn]), (op, ar cI 5 pr), (od, ar cI 5 sd), (ow, ar cI 3050 (ui wo1 ((wk * 5 + sp) * 61 + lf) (pv pr sd gp rm mn (ew - wk).toNat sp 0 lf))), (ol, ar cI 6 la)] := hD
                    refine i_iinc (n := 1) (lv' := [(4, iv (lf + 1)), (0, .ref oa), (1, iv mn), (2, iv wk), (3, iv sp)]) hx hb dX0_tellWorths_62 hl (k := 4) rfl (by decide) rfl (fun ls hl => ?_)
                    refine lv_goto (tgt := 33) hx hb dX0_tellWorths_65 (by decide) ?_
                    exact ih_33 (lf + 1) (ui wo1 ((wk * 5 + sp) * 61 + lf) (pv pr sd gp rm mn (ew - wk).toNat sp 0 lf)) (by omega) (hG.put hos.1 (by omega) (by omega) hlf.1 (by omega) hok.2) (hP1.put hos.1 (by omega) (by omega) hlf.1 (by omega) hok.2) (by omega) _ _ (hP.sub [0, 1, 2, 3, 4] rfl) (hD.sub [0, 1, 2, 3, 4] (by decide) rfl) hS ls (lv_sub hl [1, 2, 3, 4, 0] rfl)
              exact J_33 _ 0 wo1 (by omega) (hG) (hP1) (Nat.lt_succ_self _) _ _ (hP.sub [0, 1, 2, 3, 4] rfl) (hD.sub [0, 1, 2, 3, 4] (by decide) rfl) hS ls (lv_sub hl [1, 2, 3, 4, 0] rfl)
        exact J_25 _ os wo1 (by omega) (hG) (GP.zero) (Nat.lt_succ_self _) _ _ (hP.sub [0, 1, 2, 3, 4] rfl) (hD.sub [0, 1, 2, 3, 4] (by decide) rfl) hS ls (lv_sub hl [1, 2, 3, 0] rfl)
  exact J_12 _ (ew - 1) wo (by omega) (fun wk st lf q1 q2 => by omega) (Nat.lt_succ_self _) _ _ (hP.sub [0, 1, 2, 3, 4] rfl) (hD.sub [0, 1, 2, 3, 4] (by decide) rfl) hS ls (lv_sub hl [1, 2, 0] rfl)

abbrev rm_X0_greatestWorth : Room := { frames := 6, cells := 0, slots := 0, locals := 145 }
set_option maxHeartbeats 4000000 in
set_option maxRecDepth 100000 in
/-- the greatest worth of all plans that leave no more than some pieces -/
theorem mt_X0_greatestWorth (l : Launch) (D : va_G) (cI cS cJ : ClassId) (oa : Nat) (op : Nat) (od : Nat) (ow : Nat) (ol : Nat) (pr : Int → Int) (sd : Int → Int) (wo : Int → Int) (la : Int → Int) (fw : Int) (fr : Int) (ew : Int) (gp : Int) (rm : Int) (os : Int) (ok : Int) (ml : Int) (mn : Int) (hB : PB pr sd fw fr ew gp rm os ok) (hmn : 0 ≤ mn ∧ mn ≤ 60) : cM l yX0_greatestWorth wsX0_greatestWorth rm_X0_greatestWorth [.ref oa, iv mn] D (tyL cI cS cJ) [(oa, ob 0 [.ref op, .ref od, .ref ow, .ref ol, iv fw, iv fr, iv ew, iv gp, iv rm, iv os, iv ok, iv ml]), (op, ar cI 5 pr), (od, ar cI 5 sd), (ow, ar cI 3050 wo), (ol, ar cI 6 la)] (fun r_ w_ => ∃ wo2 : Int → Int, r_ = some (iv (pv pr sd gp rm mn (ew - fw).toNat os (fr - fw) ok)) ∧ w_ = [(oa, ob 0 [.ref op, .ref od, .ref ow, .ref ol, iv fw, iv fr, iv ew, iv gp, iv rm, iv os, iv ok, iv mn]), (op, ar cI 5 pr), (od, ar cI 5 sd), (ow, ar cI 3050 wo2), (ol, ar cI 6 la)]) 0 0 := by
  refine en_M (cc := cX0_greatestWorth) (maxL := 2) (ret := (some .int)) (by decide) rfl (Nat.le_of_ble_eq_true rfl) ?_
  intro p e s m args below meth c ls A hX hE hP hK hD hS hA hl Q hQ
  obtain ⟨hx, hb, hr, hml, hts, hown, hlocks, hnm⟩ := hX
  have hown : s.vm.findClass RX0 = some m.cls := hown
  have hl : lv_has ls 2 [(0, .ref oa), (1, iv mn)] := hl
  have inX0 : ∀ w ∈ u_ws RX0 TX0 12, w ∈ wsX0_greatestWorth := by decide +kernel
  have w0 : (Cond.fieldLink RX0 40 RX0 "firstWeek" "I").before args s = true := hts _ (by decide +kernel)
  have w1 : (Cond.fieldLink RX0 72 RX0 "ownStep" "I").before args s = true := hts _ (by decide +kernel)
  have w2 : (Cond.fieldLink RX0 66 RX0 "freeWeek" "I").before args s = true := hts _ (by decide +kernel)
  have w3 : (Cond.fieldLink RX0 79 RX0 "ownStock" "I").before args s = true := hts _ (by decide +kernel)
  obtain ⟨hfw, hfr, hgp, hrm, hos, hok, hpr, hsd⟩ := id hB
  have hd0 : ∀ j : Int, 0 ≤ j → j < 5 → 0 ≤ sd j := fun j a b => (hsd j a b).1
  have hp0 : ∀ j : Int, 0 ≤ j → j < 5 → 0 ≤ pr j := fun j a b => (hpr j a b).1
  refine lv_aload_n hx hb dX0_greatestWorth_0 rfl (lv_at hl 0 rfl) ?_
  refine lv_iload_n hx hb dX0_greatestWorth_1 rfl (lv_at hl 1 rfl) ?_
  refine ms_M (wc := [(oa, ob 0 [.ref op, .ref od, .ref ow, .ref ol, iv fw, iv fr, iv ew, iv gp, iv rm, iv os, iv ok, iv ml]), (op, ar cI 5 pr), (od, ar cI 5 sd), (ow, ar cI 3050 wo), (ol, ar cI 6 la)]) (wr := []) (va_runV (As := [iv mn]) (rest := []) ⟨hx, hb, hml, hown, hts⟩ ((mt_X0_tellWorths l D cI cS cJ oa op od ow ol pr sd wo la fw fr ew gp rm os ok ml mn (hB) (hmn)) s.heap.size) (cwV 1 hts gX0_greatestWorth_X0_tellWorths rfl rfl rfl (by decide +kernel) ⟨Nat.le_of_ble_eq_true rfl, Nat.le_of_ble_eq_true rfl⟩) (pc_V (ci := 0) (q0 := 0) hK (hP.sub (ws' := [(oa, ob 0 [.ref op, .ref od, .ref ow, .ref ol, iv fw, iv fr, iv ew, iv gp, iv rm, iv os, iv ok, iv ml]), (op, ar cI 5 pr), (od, ar cI 5 sd), (ow, ar cI 3050 wo), (ol, ar cI 6 la)]) [0, 1, 2, 3, 4] rfl) rfl rfl (pcM_S hE hK (hP.sub (ws' := [(oa, ob 0 [.ref op, .ref od, .ref ow, .ref ol, iv fw, iv fr, iv ew, iv gp, iv rm, iv os, iv ok, iv ml]), (op, ar cI 5 pr), (od, ar cI 5 sd), (ow, ar cI 3050 wo), (ol, ar cI 6 la)]) [0, 1, 2, 3, 4] rfl) (hD.sub (ws' := [(oa, ob 0 [.ref op, .ref od, .ref ow, .ref ol, iv fw, iv fr, iv ew, iv gp, iv rm, iv os, iv ok, iv ml]), (op, ar cI 5 pr), (od, ar cI 5 sd), (ow, ar cI 3050 wo), (ol, ar cI 6 la)]) [0, 1, 2, 3, 4] (by decide) rfl))) rfl rfl hl.1 rfl (lv_room (Nat.le_of_ble_eq_true rfl)) dX0_greatestWorth_2 ⟨Nat.le_of_ble_eq_true rfl, Nat.le_of_ble_eq_true rfl⟩) hP hD hS hA [0, 1, 2, 3, 4] [] rfl rfl (by decide) (by decide) (fun r_ w_ H locs hq_ hP hD hS => ?_)
  obtain ⟨wo2_1, hf_2, rfl, rfl⟩ := hq_
  have hP : va_P D vwCl [(oa, ob 0 [.ref op, .ref od, .ref ow, .ref ol, iv fw, iv fr, iv ew, iv gp, iv rm, iv os, iv ok, iv mn]), (op, ar cI 5 pr), (od, ar cI 5 sd), (ow, ar cI 3050 wo2_1), (ol, ar cI 6 la)] H := hP
  have hD : va_D A [(oa, ob 0 [.ref op, .ref od, .ref ow, .ref ol, iv fw, iv fr, iv ew, iv gp, iv rm, iv os, iv ok, iv mn]), (op, ar cI 5 pr), (od, ar cI 5 sd), (ow, ar cI 3050 wo2_1), (ol, ar cI 6 la)] := hD
  have hG := hf_2
  refine lv_aload_n hx hb dX0_greatestWorth_5 rfl (lv_at hl 0 rfl) ?_
  refine lv_aload_n hx hb dX0_greatestWorth_6 rfl (lv_at hl 0 rfl) ?_
  refine va_get (D := D) (ci := 0) (v := iv fw) (C := RX0) (T := TX0) (N := 12) hx hb hts inX0 hown hK hP 0 rfl rfl 4 (by decide) w0 (fun _ h9 => h9) rfl dX0_greatestWorth_7 ?_
  refine lv_aload_n hx hb dX0_greatestWorth_10 rfl (lv_at hl 0 rfl) ?_
  refine va_get (D := D) (ci := 0) (v := iv os) (C := RX0) (T := TX0) (N := 12) hx hb hts inX0 hown hK hP 0 rfl rfl 9 (by decide) w1 (fun _ h9 => h9) rfl dX0_greatestWorth_11 ?_
  refine lv_aload_n hx hb dX0_greatestWorth_14 rfl (lv_at hl 0 rfl) ?_
  refine va_get (D := D) (ci := 0) (v := iv fr) (C := RX0) (T := TX0) (N := 12) hx hb hts inX0 hown hK hP 0 rfl rfl 5 (by decide) w2 (fun _ h9 => h9) rfl dX0_greatestWorth_15 ?_
  refine lv_aload_n hx hb dX0_greatestWorth_18 rfl (lv_at hl 0 rfl) ?_
  refine va_get (D := D) (ci := 0) (v := iv fw) (C := RX0) (T := TX0) (N := 12) hx hb hts inX0 hown hK hP 0 rfl rfl 4 (by decide) w0 (fun _ h9 => h9) rfl dX0_greatestWorth_19 ?_
  refine i_isub hx hb dX0_greatestWorth_22 ?_
  refine lv_aload_n hx hb dX0_greatestWorth_23 rfl (lv_at hl 0 rfl) ?_
  refine va_get (D := D) (ci := 0) (v := iv ok) (C := RX0) (T := TX0) (N := 12) hx hb hts inX0 hown hK hP 0 rfl rfl 10 (by decide) w3 (fun _ h9 => h9) rfl dX0_greatestWorth_24 ?_
  refine ms_P (va_runV (As := [iv fw, iv os, iv (fr - fw), iv ok]) (rest := []) ⟨hx, hb, hml, hown, hts⟩ (mt_X0_worthOfKeeping l D cI cS cJ oa op od ow ol pr sd wo2_1 la fw fr ew gp rm os ok mn fw os (fr - fw) ok fr (hB) (hmn) (hG) (by omega) (by omega) (by omega) (by omega)) (cwV 4 hts gX0_greatestWorth_X0_worthOfKeeping rfl rfl rfl (by decide +kernel) ⟨Nat.le_of_ble_eq_true rfl, Nat.le_of_ble_eq_true rfl⟩) (pc_V (ci := 0) (q0 := 0) hK (hP.sub (ws' := [(oa, ob 0 [.ref op, .ref od, .ref ow, .ref ol, iv fw, iv fr, iv ew, iv gp, iv rm, iv os, iv ok, iv mn]), (op, ar cI 5 pr), (od, ar cI 5 sd), (ow, ar cI 3050 wo2_1), (ol, ar cI 6 la)]) [0, 1, 2, 3, 4] rfl) rfl rfl (pcP_S hE hK (hP.sub (ws' := [(oa, ob 0 [.ref op, .ref od, .ref ow, .ref ol, iv fw, iv fr, iv ew, iv gp, iv rm, iv os, iv ok, iv mn]), (op, ar cI 5 pr), (od, ar cI 5 sd), (ow, ar cI 3050 wo2_1), (ol, ar cI 6 la)]) [0, 1, 2, 3, 4] rfl))) rfl rfl hl.1 rfl (lv_room (Nat.le_of_ble_eq_true rfl)) dX0_greatestWorth_27 ⟨Nat.le_of_ble_eq_true rfl, Nat.le_of_ble_eq_true rfl⟩) ?_
  subst hQ
  exact r_Mi hx hb hr hlocks (by first | rfl | decide) dX0_greatestWorth_30 hS (hP.sub (ws' := [(oa, ob 0 [.ref op, .ref od, .ref ow, .ref ol, iv fw, iv fr, iv ew, iv gp, iv rm, iv os, iv ok, iv mn]), (op, ar cI 5 pr), (od, ar cI 5 sd), (ow, ar cI 3050 wo2_1), (ol, ar cI 6 la)]) [0, 1, 2, 3, 4] rfl) (hD.sub (ws' := [(oa, ob 0 [.ref op, .ref od, .ref ow, .ref ol, iv fw, iv fr, iv ew, iv gp, iv rm, iv os, iv ok, iv mn]), (op, ar cI 5 pr), (od, ar cI 5 sd), (ow, ar cI 3050 wo2_1), (ol, ar cI 6 la)]) [0, 1, 2, 3, 4] (by decide) rfl) (⟨wo2_1, rfl, rfl⟩) (Nat.le_of_ble_eq_true rfl) (Nat.le_of_ble_eq_true rfl)

abbrev rm_X0_lowestBestStep : Room := { frames := 4, cells := 0, slots := 0, locals := 96 }
set_option maxHeartbeats 4000000 in
set_option maxRecDepth 100000 in
/-- the lowest step that gives the best -/
theorem mt_X0_lowestBestStep (l : Launch) (D : va_G) (cI cS cJ : ClassId) (oa : Nat) (op : Nat) (od : Nat) (ow : Nat) (ol : Nat) (pr : Int → Int) (sd : Int → Int) (wo : Int → Int) (la : Int → Int) (fw : Int) (fr : Int) (ew : Int) (gp : Int) (rm : Int) (os : Int) (ok : Int) (ml : Int) (wk : Int) (sp : Int) (lf : Int) (hB : PB pr sd fw fr ew gp rm os ok) (hm6 : 0 ≤ ml ∧ ml ≤ 60) (hG : GW pr sd gp rm ml ew os ok wo wk) (hwk : 0 ≤ wk ∧ wk < ew) (hsp : os ≤ sp ∧ sp < 5) (hlf : 0 ≤ lf ∧ lf ≤ ok) (hne : pv pr sd gp rm ml (ew - wk).toNat sp 0 lf ≠ -1) : cP l yX0_lowestBestStep wsX0_lowestBestStep rm_X0_lowestBestStep [.ref oa, iv wk, iv sp, iv lf] D (tyL cI cS cJ) [(oa, ob 0 [.ref op, .ref od, .ref ow, .ref ol, iv fw, iv fr, iv ew, iv gp, iv rm, iv os, iv ok, iv ml]), (op, ar cI 5 pr), (od, ar cI 5 sd), (ow, ar cI 3050 wo), (ol, ar cI 6 la)] (zI (fnd (cand (pv pr sd gp rm ml (ew - wk - 1).toNat) pr sd gp sp 0 lf) (pv pr sd gp rm ml (ew - wk).toNat sp 0 lf) sp (5 - sp).toNat)) := by
  refine en_P (cc := cX0_lowestBestStep) (maxL := 6) (ret := (some .int)) (by decide) rfl (Nat.le_of_ble_eq_true rfl) ?_
  intro p e s m args below meth c ls hX hE hP hK hl Q hQ
  obtain ⟨hx, hb, hr, hml, hts, hown, hlocks, hnm⟩ := hX
  have hown : s.vm.findClass RX0 = some m.cls := hown
  have hl : lv_has ls 6 [(0, .ref oa), (1, iv wk), (2, iv sp), (3, iv lf)] := hl
  obtain ⟨hfw, hfr, hgp, hrm, hos, hok, hpr, hsd⟩ := id hB
  have hd0 : ∀ j : Int, 0 ≤ j → j < 5 → 0 ≤ sd j := fun j a b => (hsd j a b).1
  have hp0 : ∀ j : Int, 0 ≤ j → j < 5 → 0 ≤ pr j := fun j a b => (hpr j a b).1
  refine lv_aload_n hx hb dX0_lowestBestStep_0 rfl (lv_at hl 0 rfl) ?_
  refine lv_iload_n hx hb dX0_lowestBestStep_1 rfl (lv_at hl 1 rfl) ?_
  refine lv_iload_n hx hb dX0_lowestBestStep_2 rfl (lv_at hl 2 rfl) ?_
  refine lv_iload_n hx hb dX0_lowestBestStep_3 rfl (lv_at hl 3 rfl) ?_
  refine ms_P (va_runV (As := [iv wk, iv sp, iv lf]) (rest := []) ⟨hx, hb, hml, hown, hts⟩ (mt_X0_worthFrom l D cI cS cJ oa op od ow ol pr sd wo la fw fr ew gp rm os ok ml wk sp lf wk (hB) (hm6) (hG) (by omega) (by omega) (by omega)) (cwV 3 hts gX0_lowestBestStep_X0_worthFrom rfl rfl rfl (by decide +kernel) ⟨Nat.le_of_ble_eq_true rfl, Nat.le_of_ble_eq_true rfl⟩) (pc_V (ci := 0) (q0 := 0) hK (hP.sub (ws' := [(oa, ob 0 [.ref op, .ref od, .ref ow, .ref ol, iv fw, iv fr, iv ew, iv gp, iv rm, iv os, iv ok, iv ml]), (op, ar cI 5 pr), (od, ar cI 5 sd), (ow, ar cI 3050 wo), (ol, ar cI 6 la)]) [0, 1, 2, 3, 4] rfl) rfl rfl (pcP_S hE hK (hP.sub (ws' := [(oa, ob 0 [.ref op, .ref od, .ref ow, .ref ol, iv fw, iv fr, iv ew, iv gp, iv rm, iv os, iv ok, iv ml]), (op, ar cI 5 pr), (od, ar cI 5 sd), (ow, ar cI 3050 wo), (ol, ar cI 6 la)]) [0, 1, 2, 3, 4] rfl))) rfl rfl hl.1 rfl (lv_room (Nat.le_of_ble_eq_true rfl)) dX0_lowestBestStep_4 ⟨Nat.le_of_ble_eq_true rfl, Nat.le_of_ble_eq_true rfl⟩) ?_
  refine i_name (fun gr hgr => ?_)
  have hg0 := pv_ge (g := gp) (ml := ml) hd0 hp0 hrm.1 (ew - wk).toNat sp 0 lf hlf.1
  have hg1 := pv_le (g := gp) (ml := ml) hd0 hpr hrm.2 (ew - wk).toNat sp 0 lf (by omega) hlf.1
  have hG2 := hG.mono (show wk ≤ wk + 1 by omega)
  refine lv_istore (lv' := [(4, iv gr), (0, .ref oa), (1, iv wk), (2, iv sp), (3, iv lf)]) hx hb dX0_lowestBestStep_7 hl (by decide) rfl (fun ls hl => ?_)
  refine lv_iload_n hx hb dX0_lowestBestStep_9 rfl (lv_at hl 3 rfl) ?_
  refine lv_istore (lv' := [(5, iv sp), (4, iv gr), (0, .ref oa), (1, iv wk), (2, iv sp), (3, iv lf)]) hx hb dX0_lowestBestStep_10 hl (by decide) rfl (fun ls hl => ?_)
  have J_12 : ∀ (n_12 : Nat) (nx : Int) (hnx : sp ≤ nx ∧ nx ≤ 5) (hno : ∀ j : Int, sp ≤ j → j < nx → cand (pv pr sd gp rm ml (ew - wk - 1).toNat) pr sd gp sp 0 lf j ≠ gr) (hm_12 : ((5 - nx).toNat) < n_12) (ls : Array Slot) (hl : lv_has ls 6 [(0, .ref oa), (1, iv wk), (2, iv sp), (3, iv lf), (4, iv gr), (5, iv nx)]), W p l e rm_X0_lowestBestStep s m args below meth c s.heap [] 0 0 Q (F0 m 12 ls []) := by
    intro n_12
    induction n_12 with
    | zero => intro nx hnx hno hm_12 ls hl; exact absurd hm_12 (Nat.not_lt_zero _)
    | succ n_12 ih_12 =>
      intro nx hnx hno hm_12 ls hl
      refine lv_iload hx hb dX0_lowestBestStep_12 (lv_at hl 5 rfl) ?_
      refine lv_iconst (v := zI 5) hx hb dX0_lowestBestStep_14 rfl ?_
      refine i_icmp_ge (tgt := 41) hx hb ⟨by omega, by omega⟩ ⟨by decide, by decide⟩ dX0_lowestBestStep_15 (by decide) (fun c_1 => ?_) (fun c_1 => ?_)
      · skip
        refine lv_iload_n hx hb dX0_lowestBestStep_41 rfl (lv_at hl 2 rfl) ?_
        subst hQ
        exact r_P hx hb hr hlocks (by rfl) dX0_lowestBestStep_42 (by
      exfalso
      rw [show (ew - wk).toNat = (ew - wk - 1).toNat + 1 by omega] at hne hgr
      obtain ⟨i9, z1, z2, z3⟩ := pv_ex (ew - wk - 1).toNat (by omega) hne
      exact hno i9 z1 (by omega) (by rw [hgr]; exact z3))
      · skip
        refine lv_aload_n hx hb dX0_lowestBestStep_18 rfl (lv_at hl 0 rfl) ?_
        refine lv_iload_n hx hb dX0_lowestBestStep_19 rfl (lv_at hl 1 rfl) ?_
        refine lv_iload_n hx hb dX0_lowestBestStep_20 rfl (lv_at hl 2 rfl) ?_
        refine lv_iload hx hb dX0_lowestBestStep_21 (lv_at hl 5 rfl) ?_
        refine lv_iload_n hx hb dX0_lowestBestStep_23 rfl (lv_at hl 3 rfl) ?_
        refine ms_P (va_runV (As := [iv wk, iv sp, iv nx, iv lf]) (rest := []) ⟨hx, hb, hml, hown, hts⟩ (mt_X0_worthOfTaking l D cI cS cJ oa op od ow ol pr sd wo la fw fr ew gp rm os ok ml wk sp nx lf (hB) (hm6) (hG2) (by omega) (by omega) (by omega) (by omega)) (cwV 4 hts gX0_lowestBestStep_X0_worthOfTaking rfl rfl rfl (by decide +kernel) ⟨Nat.le_of_ble_eq_true rfl, Nat.le_of_ble_eq_true rfl⟩) (pc_V (ci := 0) (q0 := 0) hK (hP.sub (ws' := [(oa, ob 0 [.ref op, .ref od, .ref ow, .ref ol, iv fw, iv fr, iv ew, iv gp, iv rm, iv os, iv ok, iv ml]), (op, ar cI 5 pr), (od, ar cI 5 sd), (ow, ar cI 3050 wo), (ol, ar cI 6 la)]) [0, 1, 2, 3, 4] rfl) rfl rfl (pcP_S hE hK (hP.sub (ws' := [(oa, ob 0 [.ref op, .ref od, .ref ow, .ref ol, iv fw, iv fr, iv ew, iv gp, iv rm, iv os, iv ok, iv ml]), (op, ar cI 5 pr), (od, ar cI 5 sd), (ow, ar cI 3050 wo), (ol, ar cI 6 la)]) [0, 1, 2, 3, 4] rfl))) rfl rfl hl.1 rfl (lv_room (Nat.le_of_ble_eq_true rfl)) dX0_lowestBestStep_24 ⟨Nat.le_of_ble_eq_true rfl, Nat.le_of_ble_eq_true rfl⟩) ?_
        have hcd := cand_in (g := gp) (ml := ml) (b := sp) (i := nx) (l := lf) (w := 0) hd0 hpr hrm (ew - wk - 1).toNat (by omega) (by omega) hlf.1
        refine lv_iload hx hb dX0_lowestBestStep_27 (lv_at hl 4 rfl) ?_
        refine i_icmp_ne (tgt := 35) hx hb ⟨by omega, by omega⟩ ⟨by omega, by omega⟩ dX0_lowestBestStep_29 (by decide) (fun c_2 => ?_) (fun c_2 => ?_)
        · skip
          refine i_iinc (n := 1) (lv' := [(5, iv (nx + 1)), (0, .ref oa), (1, iv wk), (2, iv sp), (3, iv lf), (4, iv gr)]) hx hb dX0_lowestBestStep_35 hl (k := 5) rfl (by decide) rfl (fun ls hl => ?_)
          refine lv_goto (tgt := 12) hx hb dX0_lowestBestStep_38 (by decide) ?_
          exact ih_12 (nx + 1) (by omega) (fun j q1 q2 => by rcases (show j < nx ∨ j = nx by omega) with h | h; exact hno j q1 h; rw [h]; assumption) (by omega) ls (lv_sub hl [1, 2, 3, 4, 5, 0] rfl)
        · skip
          refine lv_iload hx hb dX0_lowestBestStep_32 (lv_at hl 5 rfl) ?_
          subst hQ
          exact r_P hx hb hr hlocks (by rfl) dX0_lowestBestStep_34 (by rw [← hgr]; exact congrArg zI (fnd_eq _ hnx.1 (by omega) (by assumption) (fun j q1 q2 => hno j q1 q2)).symm)
  exact J_12 _ sp (by omega) (fun j q1 q2 => by omega) (Nat.lt_succ_self _) ls (lv_sub hl [2, 3, 4, 5, 1, 0] rfl)
