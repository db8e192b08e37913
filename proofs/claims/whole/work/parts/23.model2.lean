/-- the reference's table is told from the week lo on -/
def GT (pr d : Int → Int) (g r ml wks : Int) (wt : Int → Int) (lo : Int) : Prop := ∀ wk st w lf : Int, lo ≤ wk → wk ≤ wks → 0 ≤ st → st < 5 → 0 ≤ w → w < 5 → 0 ≤ lf → lf ≤ 60 → wt (1525 * wk + (5 * st + w) * 61 + lf) = pv pr d g r ml (wks - wk).toNat st w lf
def GQ (pr d : Int → Int) (g r ml wks : Int) (wt : Int → Int) (wk k : Int) : Prop := ∀ st w lf : Int, 0 ≤ st → st < 5 → 0 ≤ w → w < 5 → 0 ≤ lf → lf ≤ 60 → (5 * st + w) * 61 + lf < k → wt (1525 * wk + (5 * st + w) * 61 + lf) = pv pr d g r ml (wks - wk).toNat st w lf
theorem GT.put {pr d : Int → Int} {g r ml wks : Int} {wt : Int → Int} {wk k v : Int} (h : GT pr d g r ml wks wt (wk + 1)) (h0 : 0 ≤ k) (h1 : k < 1525) : GT pr d g r ml wks (ui wt (1525 * wk + k) v) (wk + 1) := by
  intro wk1 st w lf q1 q2 q3 q4 q5 q6 q7 q8
  rw [ui_n (by omega)]
  exact h wk1 st w lf q1 q2 q3 q4 q5 q6 q7 q8
theorem GQ.put {pr d : Int → Int} {g r ml wks : Int} {wt : Int → Int} {wk k v : Int} (h : GQ pr d g r ml wks wt wk k) (h0 : 0 ≤ k) (hv : v = pv pr d g r ml (wks - wk).toNat (k / 61 / 5) (k / 61 % 5) (k % 61)) : GQ pr d g r ml wks (ui wt (1525 * wk + k) v) wk (k + 1) := by
  intro st w lf q3 q4 q5 q6 q7 q8 q9
  by_cases hk : (5 * st + w) * 61 + lf = k
  · rw [show 1525 * wk + (5 * st + w) * 61 + lf = 1525 * wk + k by omega, ui_s, hv]
    rw [show k / 61 / 5 = st by omega, show k / 61 % 5 = w by omega, show k % 61 = lf by omega]
  · rw [ui_n (by omega)]
    exact h st w lf q3 q4 q5 q6 q7 q8 (by omega)
theorem GT.down {pr d : Int → Int} {g r ml wks : Int} {wt : Int → Int} {wk : Int} (h : GT pr d g r ml wks wt (wk + 1)) (hq : GQ pr d g r ml wks wt wk 1525) : GT pr d g r ml wks wt wk := by
  intro wk1 st w lf q1 q2 q3 q4 q5 q6 q7 q8
  by_cases he : wk1 = wk
  · subst he; exact hq st w lf q3 q4 q5 q6 q7 q8 (by omega)
  · exact h wk1 st w lf (by omega) q2 q3 q4 q5 q6 q7 q8
theorem GT.mono {pr d : Int → Int} {g r ml wks : Int} {wt : Int → Int} {lo lo2 : Int} (h : GT pr d g r ml wks wt lo) (hl : lo ≤ lo2) : GT pr d g r ml wks wt lo2 := fun wk st w lf q1 => h wk st w lf (by omega)
theorem GQ.zero {pr d : Int → Int} {g r ml wks : Int} {wt : Int → Int} {wk : Int} : GQ pr d g r ml wks wt wk 0 := by
  intro st w lf q3 q4 q5 q6 q7 q8 q9
  omega

abbrev rm_X4_at : Room := { frames := 0, cells := 0, slots := 0, locals := 0 }
set_option maxHeartbeats 4000000 in
set_option maxRecDepth 100000 in
theorem mt_X4_at (l : Launch) (D : va_G) (cI cS cJ : ClassId) (wk : Int) (st : Int) (w : Int) (lf : Int)  : cP l yX4_at wsX4_at rm_X4_at [iv wk, iv st, iv w, iv lf] D (tyL cI cS cJ) [] (zI (1525 * wk + (5 * st + w) * 61 + lf)) := by
  refine en_P (cc := cX4_at) (maxL := 4) (ret := (some .int)) (by decide) rfl (Nat.le_of_ble_eq_true rfl) ?_
  intro p e s m args below meth c ls hX hE hP hK hl Q hQ
  obtain ⟨hx, hb, hr, hml, hts, hown, hlocks, hnm⟩ := hX
  have hown : s.vm.findClass RX4 = some m.cls := hown
  have hl : lv_has ls 4 [(0, iv wk), (1, iv st), (2, iv w), (3, iv lf)] := hl
  refine lv_sipush (v := zI 1525) hx hb dX4_at_0 (by decide) ?_
  refine lv_iload_n hx hb dX4_at_3 rfl (lv_at hl 0 rfl) ?_
  refine i_imul hx hb dX4_at_4 ?_
  refine lv_iconst (v := zI 5) hx hb dX4_at_5 rfl ?_
  refine lv_iload_n hx hb dX4_at_6 rfl (lv_at hl 1 rfl) ?_
  refine i_imul hx hb dX4_at_7 ?_
  refine lv_iload_n hx hb dX4_at_8 rfl (lv_at hl 2 rfl) ?_
  refine i_iadd hx hb dX4_at_9 ?_
  refine lv_bipush (v := zI 61) hx hb dX4_at_10 (by decide) ?_
  refine i_imul hx hb dX4_at_12 ?_
  refine i_iadd hx hb dX4_at_13 ?_
  refine lv_iload_n hx hb dX4_at_14 rfl (lv_at hl 3 rfl) ?_
  refine i_iadd hx hb dX4_at_15 ?_
  subst hQ
  exact r_P hx hb hr hlocks (by rfl) dX4_at_16 (by first | rfl | (congr 1; omega))

abbrev rm_X4_worthOf : Room := { frames := 1, cells := 0, slots := 0, locals := 23 }
set_option maxHeartbeats 4000000 in
set_option maxRecDepth 100000 in
/-- the worth of a week at a step, and of all that follows -/
theorem mt_X4_worthOf (l : Launch) (D : va_G) (cI cS cJ : ClassId) (h : Nat) (r1 : Nat) (r2 : Nat) (r3 : Nat) (r4 : Nat) (r5 : Nat) (r6 : Nat) (r7 : Nat) (wks : Int) (wk : Int) (gp : Int) (rm : Int) (mv : Int) (tk : Int) (th : Int) (pr : Int → Int) (dm : Int → Int) (wt : Int → Int) (i : Int) (ml : Int) (wh : Int) (bf : Int) (w : Int) (lf : Int) (it : Int) (hwks : 0 ≤ wks ∧ wks ≤ 10) (hg : 1 ≤ gp ∧ gp ≤ 4) (hrm : 0 ≤ rm ∧ rm ≤ 1000) (hpr : ∀ j : Int, 0 ≤ j → j < 5 → 0 ≤ pr (j) ∧ pr (j) ≤ 1000) (hdm : ∀ j : Int, 0 ≤ j → j < 5 → 0 ≤ dm (5 * i + j) ∧ dm (5 * i + j) ≤ 30) (hi : 0 ≤ i ∧ i < 3) (hwh : 0 ≤ wh ∧ wh < wks) (hbf : 0 ≤ bf ∧ bf < 5) (hw : 0 ≤ w ∧ w < 5) (hlf : 0 ≤ lf ∧ lf ≤ 60) (hit : 0 ≤ it ∧ it < 5) (hG : GT pr (fun z : Int => dm (5 * i + z)) gp rm ml wks wt (wh + 1)) : cP l yX4_worthOf wsX4_worthOf rm_X4_worthOf [.ref h, iv i, iv wh, iv bf, iv w, iv lf, iv it] D (tyL cI cS cJ) [(h, ob 4 [iv wks, iv wk, .ref r1, .ref r2, iv gp, iv rm, iv mv, .ref r3, .ref r4, .ref r5, .ref r6, iv tk, .ref r7, iv th]), (r1, ar cI 5 pr), (r2, ar cI 15 dm), (r7, ar cI 16775 wt)] (zI (cand (pv pr (fun z : Int => dm (5 * i + z)) gp rm ml (wks - wh - 1).toNat) pr (fun z : Int => dm (5 * i + z)) gp bf w lf it)) := by
  refine en_P (cc := cX4_worthOf) (maxL := 10) (ret := (some .int)) (by decide) rfl (Nat.le_of_ble_eq_true rfl) ?_
  intro p e s m args below meth c ls hX hE hP hK hl Q hQ
  obtain ⟨hx, hb, hr, hml, hts, hown, hlocks, hnm⟩ := hX
  have hown : s.vm.findClass RX4 = some m.cls := hown
  have hl : lv_has ls 10 [(0, .ref h), (1, iv i), (2, iv wh), (3, iv bf), (4, iv w), (5, iv lf), (6, iv it)] := hl
  have inX4 : ∀ w ∈ u_ws RX4 TX4 14, w ∈ wsX4_worthOf := by decide +kernel
  have w0 : (Cond.fieldLink RX4 17 RX4 "demand" "[I").before args s = true := hts _ (by decide +kernel)
  have w1 : (Cond.fieldLink RX4 35 RX4 "worth" "[I").before args s = true := hts _ (by decide +kernel)
  have w2 : (Cond.fieldLink RX4 13 RX4 "price" "[I").before args s = true := hts _ (by decide +kernel)
  have w3 : (Cond.fieldLink RX4 20 RX4 "gap" "I").before args s = true := hts _ (by decide +kernel)
  have hd0 : ∀ j : Int, 0 ≤ j → j < 5 → 0 ≤ (fun z : Int => dm (5 * i + z)) j := fun j a b => (hdm j a b).1
  have hp0 : ∀ j : Int, 0 ≤ j → j < 5 → 0 ≤ pr j := fun j a b => (hpr j a b).1
  have hdi := hdm it hit.1 hit.2
  refine lv_iload hx hb dX4_worthOf_0 (lv_at hl 6 rfl) ?_
  refine lv_iload_n hx hb dX4_worthOf_2 rfl (lv_at hl 3 rfl) ?_
  have J_13 : ∀  (hnc : ¬ (bf < it ∧ 0 < w)) (ls : Array Slot) (hl : lv_has ls 10 [(0, .ref h), (1, iv i), (2, iv wh), (3, iv bf), (4, iv w), (5, iv lf), (6, iv it)]), W p l e rm_X4_worthOf s m args below meth c s.heap [] 0 0 Q (F0 m 13 ls []) := by
    intro hnc ls hl
    refine lv_aload_n hx hb dX4_worthOf_13 rfl (lv_at hl 0 rfl) ?_
    refine va_get (D := D) (ci := 4) (v := .ref r2) (C := RX4) (T := TX4) (N := 14) hx hb hts inX4 hown hK hP 0 rfl rfl 3 (by decide) w0 (fun _ h9 => h9) rfl dX4_worthOf_14 ?_
    refine lv_iconst (v := zI 5) hx hb dX4_worthOf_17 rfl ?_
    refine lv_iload_n hx hb dX4_worthOf_18 rfl (lv_at hl 1 rfl) ?_
    refine i_imul hx hb dX4_worthOf_19 ?_
    refine lv_iload hx hb dX4_worthOf_20 (lv_at hl 6 rfl) ?_
    refine i_iadd hx hb dX4_worthOf_22 ?_
    refine i_iald hx hb hK hP 2 0 rfl rfl (by omega) (by omega) (by decide) dX4_worthOf_23 ?_
    refine lv_iload hx hb dX4_worthOf_24 (lv_at hl 5 rfl) ?_
    have J_45 : ∀ (sl : Int) (hsl : sl = min (dm (5 * i + it)) lf) (ls : Array Slot) (hl : lv_has ls 10 [(0, .ref h), (1, iv i), (2, iv wh), (3, iv bf), (4, iv w), (5, iv lf), (6, iv it)]), W p l e rm_X4_worthOf s m args below meth c s.heap [] 0 0 Q (F0 m 45 ls [iv sl]) := by
      intro sl hsl ls hl
      refine lv_istore (lv' := [(7, iv sl), (0, .ref h), (1, iv i), (2, iv wh), (3, iv bf), (4, iv w), (5, iv lf), (6, iv it)]) hx hb dX4_worthOf_45 hl (by decide) rfl (fun ls hl => ?_)
      refine lv_iload hx hb dX4_worthOf_47 (lv_at hl 7 rfl) ?_
      refine lv_iload_n hx hb dX4_worthOf_49 rfl (lv_at hl 4 rfl) ?_
      have J_75 : ∀ (tt : Int) (htt : tt = if bf < it then gp - 1 else if 0 < w then w - 1 else 0) (ht4 : 0 ≤ tt ∧ tt < 5) (ls : Array Slot) (hl : lv_has ls 10 [(7, iv sl), (0, .ref h), (1, iv i), (2, iv wh), (3, iv bf), (4, iv w), (5, iv lf), (6, iv it)]), W p l e rm_X4_worthOf s m args below meth c s.heap [] 0 0 Q (F0 m 75 ls [iv tt]) := by
        intro tt htt ht4 ls hl
        refine lv_istore (lv' := [(8, iv tt), (7, iv sl), (0, .ref h), (1, iv i), (2, iv wh), (3, iv bf), (4, iv w), (5, iv lf), (6, iv it)]) hx hb dX4_worthOf_75 hl (by decide) rfl (fun ls hl => ?_)
        refine lv_aload_n hx hb dX4_worthOf_77 rfl (lv_at hl 2 rfl) ?_
        refine va_get (D := D) (ci := 4) (v := .ref r7) (C := RX4) (T := TX4) (N := 14) hx hb hts inX4 hown hK hP 0 rfl rfl 12 (by decide) w1 (fun _ h9 => h9) rfl dX4_worthOf_78 ?_
        refine lv_iload_n hx hb dX4_worthOf_81 rfl (lv_at hl 4 rfl) ?_
        refine lv_iconst (v := zI 1) hx hb dX4_worthOf_82 rfl ?_
        refine i_iadd hx hb dX4_worthOf_83 ?_
        refine lv_iload hx hb dX4_worthOf_84 (lv_at hl 8 rfl) ?_
        refine lv_iload hx hb dX4_worthOf_86 (lv_at hl 0 rfl) ?_
        refine lv_iload hx hb dX4_worthOf_88 (lv_at hl 7 rfl) ?_
        refine lv_iload hx hb dX4_worthOf_90 (lv_at hl 1 rfl) ?_
        refine i_isub hx hb dX4_worthOf_92 ?_
        refine ms_P (va_runS (As := [iv (wh + 1), iv it, iv tt, iv (lf - sl)]) (rest := [.ref r7]) ⟨hx, hb, hml, hown, hts⟩ (mt_X4_at l D cI cS cJ (wh + 1) it tt (lf - sl)) (va_cwS 4 hts gX4_worthOf_X4_at rfl rfl rfl (by decide +kernel) ⟨Nat.le_of_ble_eq_true rfl, Nat.le_of_ble_eq_true rfl⟩) (pcP_S hE hK (hP.sub (ws' := []) [] rfl)) rfl rfl hl.1 rfl (lv_room (Nat.le_of_ble_eq_true rfl)) dX4_worthOf_93 ⟨Nat.le_of_ble_eq_true rfl, Nat.le_of_ble_eq_true rfl⟩) ?_
        refine i_iald hx hb hK hP 3 0 rfl rfl (by omega) (by omega) (by decide) dX4_worthOf_96 ?_
        refine i_name (fun rs hrs => ?_)
        have hrs2 : rs = pv pr (fun z : Int => dm (5 * i + z)) gp rm ml (wks - wh - 1).toNat it tt (lf - sl) := by
          rw [hrs, hG (wh + 1) it tt (lf - sl) (by omega) (by omega) hit.1 hit.2 ht4.1 ht4.2 (by omega) (by omega)]
          rw [show wks - (wh + 1) = wks - wh - 1 by omega]
        have hr1 := pv_ge (pr := pr) (d := fun z : Int => dm (5 * i + z)) (g := gp) (ml := ml) hd0 hp0 hrm.1 (wks - wh - 1).toNat it tt (lf - sl) (by omega)
        have hr2 := pv_le (pr := pr) (d := fun z : Int => dm (5 * i + z)) (g := gp) (ml := ml) hd0 hpr hrm.2 (wks - wh - 1).toNat it tt (lf - sl) (by omega) (by omega)
        rw [← hrs2] at hr1 hr2
        have hcd : cand (pv pr (fun z : Int => dm (5 * i + z)) gp rm ml (wks - wh - 1).toNat) pr (fun z : Int => dm (5 * i + z)) gp bf w lf it = add1 rs (sl * pr it) := by
          unfold cand
          rw [if_neg hnc, ← htt, ← hsl, ← hrs2]
        refine lv_istore (lv' := [(9, iv rs), (8, iv tt), (7, iv sl), (0, .ref h), (1, iv i), (2, iv wh), (3, iv bf), (4, iv w), (5, iv lf), (6, iv it)]) hx hb dX4_worthOf_97 hl (by decide) rfl (fun ls hl => ?_)
        refine lv_iload hx hb dX4_worthOf_99 (lv_at hl 0 rfl) ?_
        refine lv_iconst (v := zI (-1)) hx hb dX4_worthOf_101 rfl ?_
        refine i_icmp_ne (tgt := 109) hx hb ⟨by omega, by omega⟩ ⟨by decide, by decide⟩ dX4_worthOf_102 (by decide) (fun c_1 => ?_) (fun c_1 => ?_)
        · skip
          refine lv_iload hx hb dX4_worthOf_109 (lv_at hl 0 rfl) ?_
          refine lv_iload hx hb dX4_worthOf_111 (lv_at hl 2 rfl) ?_
          refine lv_aload_n hx hb dX4_worthOf_113 rfl (lv_at hl 3 rfl) ?_
          refine va_get (D := D) (ci := 4) (v := .ref r1) (C := RX4) (T := TX4) (N := 14) hx hb hts inX4 hown hK hP 0 rfl rfl 2 (by decide) w2 (fun _ h9 => h9) rfl dX4_worthOf_114 ?_
          refine lv_iload hx hb dX4_worthOf_117 (lv_at hl 9 rfl) ?_
          refine i_iald hx hb hK hP 1 0 rfl rfl (by omega) (by omega) (by decide) dX4_worthOf_119 ?_
          refine i_imul hx hb dX4_worthOf_120 ?_
          refine i_iadd hx hb dX4_worthOf_121 ?_
          subst hQ
          exact r_P hx hb hr hlocks (by rfl) dX4_worthOf_122 (by rw [hcd]; unfold add1; first | exact congrArg zI (if_pos (by omega)).symm | (rw [if_neg (by omega)]; done))
        · skip
          refine lv_iconst (v := zI (-1)) hx hb dX4_worthOf_105 rfl ?_
          refine lv_goto (tgt := 122) hx hb dX4_worthOf_106 (by decide) ?_
          subst hQ
          exact r_P hx hb hr hlocks (by rfl) dX4_worthOf_122 (by rw [hcd]; unfold add1; first | exact congrArg zI (if_pos (by omega)).symm | (rw [if_neg (by omega)]; done))
      refine i_icmp_le (tgt := 62) hx hb ⟨by omega, by omega⟩ ⟨by omega, by omega⟩ dX4_worthOf_50 (by decide) (fun c_2 => ?_) (fun c_2 => ?_)
      · skip
        refine lv_iload hx hb dX4_worthOf_62 (lv_at hl 5 rfl) ?_
        refine i_if_le (tgt := 74) hx hb ⟨by omega, by omega⟩ dX4_worthOf_64 (by decide) (fun c_3 => ?_) (fun c_3 => ?_)
        · skip
          refine lv_iconst (v := zI 0) hx hb dX4_worthOf_74 rfl ?_
          exact J_75 0 (by omega) (by omega) ls (lv_sub hl [0, 1, 2, 3, 4, 5, 6, 7] rfl)
        · skip
          refine lv_iload hx hb dX4_worthOf_67 (lv_at hl 5 rfl) ?_
          refine lv_iconst (v := zI 1) hx hb dX4_worthOf_69 rfl ?_
          refine i_isub hx hb dX4_worthOf_70 ?_
          refine lv_goto (tgt := 75) hx hb dX4_worthOf_71 (by decide) ?_
          exact J_75 (w - 1) (by omega) (by omega) ls (lv_sub hl [0, 1, 2, 3, 4, 5, 6, 7] rfl)
      · skip
        refine lv_aload_n hx hb dX4_worthOf_53 rfl (lv_at hl 1 rfl) ?_
        refine va_get (D := D) (ci := 4) (v := iv gp) (C := RX4) (T := TX4) (N := 14) hx hb hts inX4 hown hK hP 0 rfl rfl 4 (by decide) w3 (fun _ h9 => h9) rfl dX4_worthOf_54 ?_
        refine lv_iconst (v := zI 1) hx hb dX4_worthOf_57 rfl ?_
        refine i_isub hx hb dX4_worthOf_58 ?_
        refine lv_goto (tgt := 75) hx hb dX4_worthOf_59 (by decide) ?_
        exact J_75 (gp - 1) (by omega) (by omega) ls (lv_sub hl [0, 1, 2, 3, 4, 5, 6, 7] rfl)
    refine i_icmp_ge (tgt := 43) hx hb ⟨by omega, by omega⟩ ⟨by omega, by omega⟩ dX4_worthOf_26 (by decide) (fun c_4 => ?_) (fun c_4 => ?_)
    · skip
      refine lv_iload hx hb dX4_worthOf_43 (lv_at hl 5 rfl) ?_
      exact J_45 lf (by omega) ls (lv_sub hl [0, 1, 2, 3, 4, 5, 6] rfl)
    · skip
      refine lv_aload_n hx hb dX4_worthOf_29 rfl (lv_at hl 0 rfl) ?_
      refine va_get (D := D) (ci := 4) (v := .ref r2) (C := RX4) (T := TX4) (N := 14) hx hb hts inX4 hown hK hP 0 rfl rfl 3 (by decide) w0 (fun _ h9 => h9) rfl dX4_worthOf_30 ?_
      refine lv_iconst (v := zI 5) hx hb dX4_worthOf_33 rfl ?_
      refine lv_iload_n hx hb dX4_worthOf_34 rfl (lv_at hl 1 rfl) ?_
      refine i_imul hx hb dX4_worthOf_35 ?_
      refine lv_iload hx hb dX4_worthOf_36 (lv_at hl 6 rfl) ?_
      refine i_iadd hx hb dX4_worthOf_38 ?_
      refine i_iald hx hb hK hP 2 0 rfl rfl (by omega) (by omega) (by decide) dX4_worthOf_39 ?_
      refine lv_goto (tgt := 45) hx hb dX4_worthOf_40 (by decide) ?_
      exact J_45 (dm ((5 * i) + it)) (by omega) ls (lv_sub hl [0, 1, 2, 3, 4, 5, 6] rfl)
  refine i_icmp_le (tgt := 13) hx hb ⟨by omega, by omega⟩ ⟨by omega, by omega⟩ dX4_worthOf_3 (by decide) (fun c_5 => ?_) (fun c_5 => ?_)
  · skip
    exact J_13  (by omega) ls (lv_sub hl [0, 1, 2, 3, 4, 5, 6] rfl)
  · skip
    refine lv_iload hx hb dX4_worthOf_6 (lv_at hl 4 rfl) ?_
    refine i_if_le (tgt := 13) hx hb ⟨by omega, by omega⟩ dX4_worthOf_8 (by decide) (fun c_6 => ?_) (fun c_6 => ?_)
    · skip
      exact J_13  (by omega) ls (lv_sub hl [0, 1, 2, 3, 4, 5, 6] rfl)
    · skip
      refine lv_iconst (v := zI (-1)) hx hb dX4_worthOf_11 rfl ?_
      subst hQ
      exact r_P hx hb hr hlocks (by rfl) dX4_worthOf_12 (by unfold cand; rw [if_pos (by omega)])

abbrev rm_X4_finds : Room := { frames := 2, cells := 0, slots := 0, locals := 52 }
set_option maxHeartbeats 4000000 in
set_option maxRecDepth 100000 in
/-- all plans of a store -/
theorem mt_X4_finds (l : Launch) (D : va_G) (cI cS cJ : ClassId) (h : Nat) (r1 : Nat) (r2 : Nat) (r3 : Nat) (r4 : Nat) (r5 : Nat) (r6 : Nat) (r7 : Nat) (wks : Int) (wk : Int) (gp : Int) (rm : Int) (mv : Int) (tk : Int) (th : Int) (pr : Int → Int) (dm : Int → Int) (sk : Int → Int) (sx : Int → Int) (la : Int → Int) (wt : Int → Int) (i : Int) (mn : Int) (hwks : 0 ≤ wks ∧ wks ≤ 10) (hg : 1 ≤ gp ∧ gp ≤ 4) (hrm : 0 ≤ rm ∧ rm ≤ 1000) (hpr : ∀ j : Int, 0 ≤ j → j < 5 → 0 ≤ pr (j) ∧ pr (j) ≤ 1000) (hdm : ∀ j : Int, 0 ≤ j → j < 5 → 0 ≤ dm (5 * i + j) ∧ dm (5 * i + j) ≤ 30) (hi : 0 ≤ i ∧ i < 3) (hwk : 0 ≤ wk ∧ wk ≤ wks) (hmn : 0 ≤ mn ∧ mn ≤ 60) (hsx : 0 ≤ sx (i) ∧ sx (i) < 5) (hla : -1 ≤ la (i) ∧ la (i) ≤ wk) (hkk : 0 ≤ whl (fun z : Int => sk (3 * i + z)) ∧ whl (fun z : Int => sk (3 * i + z)) ≤ 60) : cM l yX4_finds wsX4_finds rm_X4_finds [.ref h, iv i, iv mn] D (tyL cI cS cJ) [(h, ob 4 [iv wks, iv wk, .ref r1, .ref r2, iv gp, iv rm, iv mv, .ref r3, .ref r4, .ref r5, .ref r6, iv tk, .ref r7, iv th]), (r1, ar cI 5 pr), (r2, ar cI 15 dm), (r3, ar cI 9 sk), (r4, ar cI 3 sx), (r5, ar cI 3 la), (r7, ar cI 16775 wt)] (fun r_ w_ => ∃ wt2 : Int → Int, (GT pr (fun z : Int => dm (5 * i + z)) gp rm mn wks wt2 wk) ∧ r_ = some (iv (pv pr (fun z : Int => dm (5 * i + z)) gp rm mn (wks - wk).toNat (sx (i)) (wtv (la (i)) gp wk) (whl (fun z : Int => sk (3 * i + z))))) ∧ w_ = [(h, ob 4 [iv wks, iv wk, .ref r1, .ref r2, iv gp, iv rm, iv mv, .ref r3, .ref r4, .ref r5, .ref r6, iv tk, .ref r7, iv th]), (r1, ar cI 5 pr), (r2, ar cI 15 dm), (r3, ar cI 9 sk), (r4, ar cI 3 sx), (r5, ar cI 3 la), (r7, ar cI 16775 wt2)]) 0 0 := by
  refine en_M (cc := cX4_finds) (maxL := 9) (ret := (some .int)) (by decide) rfl (Nat.le_of_ble_eq_true rfl) ?_
  intro p e s m args below meth c ls A hX hE hP hK hD hS hA hl Q hQ
  obtain ⟨hx, hb, hr, hml, hts, hown, hlocks, hnm⟩ := hX
  have hown : s.vm.findClass RX4 = some m.cls := hown
  have hl : lv_has ls 9 [(0, .ref h), (1, iv i), (2, iv mn)] := hl
  have inX4 : ∀ w ∈ u_ws RX4 TX4 14, w ∈ wsX4_finds := by decide +kernel
  have w0 : (Cond.fieldLink RX4 7 RX4 "weeks" "I").before args s = true := hts _ (by decide +kernel)
  have w1 : (Cond.fieldLink RX4 49 RX4 "week" "I").before args s = true := hts _ (by decide +kernel)
  have w2 : (Cond.fieldLink RX4 35 RX4 "worth" "[I").before args s = true := hts _ (by decide +kernel)
  have w3 : (Cond.fieldLink RX4 26 RX4 "step" "[I").before args s = true := hts _ (by decide +kernel)
  have w4 : (Cond.fieldLink RX4 65 RX4 "remnant" "I").before args s = true := hts _ (by decide +kernel)
  have hd0 : ∀ j : Int, 0 ≤ j → j < 5 → 0 ≤ (fun z : Int => dm (5 * i + z)) j := fun j a b => (hdm j a b).1
  have hp0 : ∀ j : Int, 0 ≤ j → j < 5 → 0 ≤ pr j := fun j a b => (hpr j a b).1
  have hwv : 0 ≤ wtv (la i) gp wk ∧ wtv (la i) gp wk ≤ gp := by unfold wtv; omega
  refine lv_iconst (v := zI 0) hx hb dX4_finds_0 rfl ?_
  refine lv_istore_n (lv' := [(3, iv 0), (0, .ref h), (1, iv i), (2, iv mn)]) hx hb dX4_finds_1 rfl hl (by decide) rfl (fun ls hl => ?_)
  have J_2 : ∀ (n_2 : Nat) (k : Int) (wt1 : Int → Int) (hk : 0 ≤ k ∧ k ≤ 1525) (hQt : GQ pr (fun z : Int => dm (5 * i + z)) gp rm mn wks wt1 wks k) (hm_2 : ((1525 - k).toNat) < n_2) (H : Heap) (locs : List Loc) (hP : va_P D vwCl [(h, ob 4 [iv wks, iv wk, .ref r1, .ref r2, iv gp, iv rm, iv mv, .ref r3, .ref r4, .ref r5, .ref r6, iv tk, .ref r7, iv th]), (r1, ar cI 5 pr), (r2, ar cI 15 dm), (r3, ar cI 9 sk), (r4, ar cI 3 sx), (r5, ar cI 3 la), (r7, ar cI 16775 wt1)] H) (hD : va_D A [(h, ob 4 [iv wks, iv wk, .ref r1, .ref r2, iv gp, iv rm, iv mv, .ref r3, .ref r4, .ref r5, .ref r6, iv tk, .ref r7, iv th]), (r1, ar cI 5 pr), (r2, ar cI 15 dm), (r3, ar cI 9 sk), (r4, ar cI 3 sx), (r5, ar cI 3 la), (r7, ar cI 16775 wt1)]) (hS : va_S A s.heap H locs) (ls : Array Slot) (hl : lv_has ls 9 [(0, .ref h), (1, iv i), (2, iv mn), (3, iv k)]), W p l e rm_X4_finds s m args below meth c H locs 0 0 Q (F0 m 2 ls []) := by
    intro n_2
    induction n_2 with
    | zero => intro k wt1 hk hQt hm_2 H locs hP hD hS ls hl; exact absurd hm_2 (Nat.not_lt_zero _)
    | succ n_2 ih_2 =>
      intro k wt1 hk hQt hm_2 H locs hP hD hS ls hl
      refine lv_iload_n hx hb dX4_finds_2 rfl (lv_at hl 3 rfl) ?_
      refine lv_sipush (v := zI 1525) hx hb dX4_finds_3 (by decide) ?_
      refine i_icmp_ge (tgt := 53) hx hb ⟨by omega, by omega⟩ ⟨by decide, by decide⟩ dX4_finds_6 (by decide) (fun c_1 => ?_) (fun c_1 => ?_)
      · skip
        refine lv_aload_n hx hb dX4_finds_53 rfl (lv_at hl 0 rfl) ?_
        refine va_get (D := D) (ci := 4) (v := iv wks) (C := RX4) (T := TX4) (N := 14) hx hb hts inX4 hown hK hP 0 rfl rfl 0 (by decide) w0 (fun _ h9 => h9) rfl dX4_finds_54 ?_
        refine lv_iconst (v := zI 1) hx hb dX4_finds_57 rfl ?_
        refine i_isub hx hb dX4_finds_58 ?_
        refine lv_istore_n (lv' := [(3, iv (wks - 1)), (0, .ref h), (1, iv i), (2, iv mn)]) hx hb dX4_finds_59 rfl hl (by decide) rfl (fun ls hl => ?_)
        have J_60 : ∀ (n_60 : Nat) (wh : Int) (wt1 : Int → Int) (hwh : wk - 1 ≤ wh ∧ wh ≤ wks - 1) (hG : GT pr (fun z : Int => dm (5 * i + z)) gp rm mn wks wt1 (wh + 1)) (hm_60 : ((wh + 1 - wk).toNat) < n_60) (H : Heap) (locs : List Loc) (hP : va_P D vwCl [(h, ob 4 [iv wks, iv wk, .ref r1, .ref r2, iv gp, iv rm, iv mv, .ref r3, .ref r4, .ref r5, .ref r6, iv tk, .ref r7, iv th]), (r1, ar cI 5 pr), (r2, ar cI 15 dm), (r3, ar cI 9 sk), (r4, ar cI 3 sx), (r5, ar cI 3 la), (r7, ar cI 16775 wt1)] H) (hD : va_D A [(h, ob 4 [iv wks, iv wk, .ref r1, .ref r2, iv gp, iv rm, iv mv, .ref r3, .ref r4, .ref r5, .ref r6, iv tk, .ref r7, iv th]), (r1, ar cI 5 pr), (r2, ar cI 15 dm), (r3, ar cI 9 sk), (r4, ar cI 3 sx), (r5, ar cI 3 la), (r7, ar cI 16775 wt1)]) (hS : va_S A s.heap H locs) (ls : Array Slot) (hl : lv_has ls 9 [(0, .ref h), (1, iv i), (2, iv mn), (3, iv wh)]), W p l e rm_X4_finds s m args below meth c H locs 0 0 Q (F0 m 60 ls []) := by
          intro n_60
          induction n_60 with
          | zero => intro wh wt1 hwh hG hm_60 H locs hP hD hS ls hl; exact absurd hm_60 (Nat.not_lt_zero _)
          | succ n_60 ih_60 =>
            intro wh wt1 hwh hG hm_60 H locs hP hD hS ls hl
            refine lv_iload_n hx hb dX4_finds_60 rfl (lv_at hl 3 rfl) ?_
            refine lv_aload_n hx hb dX4_finds_61 rfl (lv_at hl 0 rfl) ?_
            refine va_get (D := D) (ci := 4) (v := iv wk) (C := RX4) (T := TX4) (N := 14) hx hb hts inX4 hown hK hP 0 rfl rfl 1 (by decide) w1 (fun _ h9 => h9) rfl dX4_finds_62 ?_
            refine i_icmp_lt (tgt := 174) hx hb ⟨by omega, by omega⟩ ⟨by omega, by omega⟩ dX4_finds_65 (by decide) (fun c_2 => ?_) (fun c_2 => ?_)
            · skip
              refine lv_aload_n hx hb dX4_finds_174 rfl (lv_at hl 0 rfl) ?_
              refine va_get (D := D) (ci := 4) (v := .ref r7) (C := RX4) (T := TX4) (N := 14) hx hb hts inX4 hown hK hP 0 rfl rfl 12 (by decide) w2 (fun _ h9 => h9) rfl dX4_finds_175 ?_
              refine lv_aload_n hx hb dX4_finds_178 rfl (lv_at hl 0 rfl) ?_
              refine va_get (D := D) (ci := 4) (v := iv wk) (C := RX4) (T := TX4) (N := 14) hx hb hts inX4 hown hK hP 0 rfl rfl 1 (by decide) w1 (fun _ h9 => h9) rfl dX4_finds_179 ?_
              refine lv_aload_n hx hb dX4_finds_182 rfl (lv_at hl 0 rfl) ?_
              refine va_get (D := D) (ci := 4) (v := .ref r4) (C := RX4) (T := TX4) (N := 14) hx hb hts inX4 hown hK hP 0 rfl rfl 8 (by decide) w3 (fun _ h9 => h9) rfl dX4_finds_183 ?_
              refine lv_iload_n hx hb dX4_finds_186 rfl (lv_at hl 1 rfl) ?_
              refine i_iald hx hb hK hP 4 0 rfl rfl (by omega) (by omega) (by decide) dX4_finds_187 ?_
              refine lv_aload_n hx hb dX4_finds_188 rfl (lv_at hl 0 rfl) ?_
              refine lv_iload_n hx hb dX4_finds_189 rfl (lv_at hl 1 rfl) ?_
              refine ms_P (va_runV (As := [iv i]) (rest := [iv (sx i), iv wk, .ref r7]) ⟨hx, hb, hml, hown, hts⟩ (mt_X4_waits l D cI cS cJ h r1 r2 r3 r4 r5 r6 r7 wks wk gp rm mv tk th la i (by omega) (by omega) (by omega) (by omega)) (cwV 1 hts gX4_finds_X4_waits rfl rfl rfl (by decide +kernel) ⟨Nat.le_of_ble_eq_true rfl, Nat.le_of_ble_eq_true rfl⟩) (pc_V (ci := 4) (q0 := 0) hK (hP.sub (ws' := [(h, ob 4 [iv wks, iv wk, .ref r1, .ref r2, iv gp, iv rm, iv mv, .ref r3, .ref r4, .ref r5, .ref r6, iv tk, .ref r7, iv th]), (r5, ar cI 3 la)]) [0, 5] rfl) rfl rfl (pcP_S hE hK (hP.sub (ws' := [(h, ob 4 [iv wks, iv wk, .ref r1, .ref r2, iv gp, iv rm, iv mv, .ref r3, .ref r4, .ref r5, .ref r6, iv tk, .ref r7, iv th]), (r5, ar cI 3 la)]) [0, 5] rfl))) rfl rfl hl.1 rfl (lv_room (Nat.le_of_ble_eq_true rfl)) dX4_finds_190 ⟨Nat.le_of_ble_eq_true rfl, Nat.le_of_ble_eq_true rfl⟩) ?_
              refine lv_aload_n hx hb dX4_finds_193 rfl (lv_at hl 0 rfl) ?_
              refine lv_iload_n hx hb dX4_finds_194 rfl (lv_at hl 1 rfl) ?_
              refine ms_P (va_runV (As := [iv i]) (rest := [iv (wtv ((la i)) gp wk), iv (sx i), iv wk, .ref r7]) ⟨hx, hb, hml, hown, hts⟩ (mt_X4_whole l D cI cS cJ h r1 r2 r3 r4 r5 r6 r7 wks wk gp rm mv tk th sk i (by omega)) (cwV 1 hts gX4_finds_X4_whole rfl rfl rfl (by decide +kernel) ⟨Nat.le_of_ble_eq_true rfl, Nat.le_of_ble_eq_true rfl⟩) (pc_V (ci := 4) (q0 := 0) hK (hP.sub (ws' := [(h, ob 4 [iv wks, iv wk, .ref r1, .ref r2, iv gp, iv rm, iv mv, .ref r3, .ref r4, .ref r5, .ref r6, iv tk, .ref r7, iv th]), (r3, ar cI 9 sk)]) [0, 3] rfl) rfl rfl (pcP_S hE hK (hP.sub (ws' := [(h, ob 4 [iv wks, iv wk, .ref r1, .ref r2, iv gp, iv rm, iv mv, .ref r3, .ref r4, .ref r5, .ref r6, iv tk, .ref r7, iv th]), (r3, ar cI 9 sk)]) [0, 3] rfl))) rfl rfl hl.1 rfl (lv_room (Nat.le_of_ble_eq_true rfl)) dX4_finds_195 ⟨Nat.le_of_ble_eq_true rfl, Nat.le_of_ble_eq_true rfl⟩) ?_
              refine ms_P (va_runS (As := [iv wk, iv (sx i), iv (wtv ((la i)) gp wk), iv (whl (fun z : Int => (sk (3 * i + z))))]) (rest := [.ref r7]) ⟨hx, hb, hml, hown, hts⟩ (mt_X4_at l D cI cS cJ wk (sx i) (wtv ((la i)) gp wk) (whl (fun z : Int => (sk (3 * i + z))))) (va_cwS 4 hts gX4_finds_X4_at rfl rfl rfl (by decide +kernel) ⟨Nat.le_of_ble_eq_true rfl, Nat.le_of_ble_eq_true rfl⟩) (pcP_S hE hK (hP.sub (ws' := []) [] rfl)) rfl rfl hl.1 rfl (lv_room (Nat.le_of_ble_eq_true rfl)) dX4_finds_198 ⟨Nat.le_of_ble_eq_true rfl, Nat.le_of_ble_eq_true rfl⟩) ?_
              refine i_iald hx hb hK hP 6 0 rfl rfl (by omega) (by omega) (by decide) dX4_finds_201 ?_
              refine i_eqz (y := pv pr (fun z : Int => dm (5 * i + z)) gp rm mn (wks - wk).toNat (sx (i)) (wtv (la (i)) gp wk) (whl (fun z : Int => sk (3 * i + z)))) (hG wk (sx i) (wtv (la i) gp wk) (whl (fun z : Int => sk (3 * i + z))) (by omega) (by omega) hsx.1 hsx.2 (by omega) (by omega) hkk.1 hkk.2) ?_
              subst hQ
              exact r_Mi hx hb hr hlocks (by first | rfl | decide) dX4_finds_202 hS (hP.sub (ws' := [(h, ob 4 [iv wks, iv wk, .ref r1, .ref r2, iv gp, iv rm, iv mv, .ref r3, .ref r4, .ref r5, .ref r6, iv tk, .ref r7, iv th]), (r1, ar cI 5 pr), (r2, ar cI 15 dm), (r3, ar cI 9 sk), (r4, ar cI 3 sx), (r5, ar cI 3 la), (r7, ar cI 16775 wt1)]) [0, 1, 2, 3, 4, 5, 6] rfl) (hD.sub (ws' := [(h, ob 4 [iv wks, iv wk, .ref r1, .ref r2, iv gp, iv rm, iv mv, .ref r3, .ref r4, .ref r5, .ref r6, iv tk, .ref r7, iv th]), (r1, ar cI 5 pr), (r2, ar cI 15 dm), (r3, ar cI 9 sk), (r4, ar cI 3 sx), (r5, ar cI 3 la), (r7, ar cI 16775 wt1)]) [0, 1, 2, 3, 4, 5, 6] (by decide) rfl) (⟨wt1, (hG.mono (by omega)), rfl, rfl⟩) (Nat.le_of_ble_eq_true rfl) (Nat.le_of_ble_eq_true rfl)
            · skip
              refine lv_iconst (v := zI 0) hx hb dX4_finds_68 rfl ?_
              refine lv_istore (lv' := [(4, iv 0), (0, .ref h), (1, iv i), (2, iv mn), (3, iv wh)]) hx hb dX4_finds_69 hl (by decide) rfl (fun ls hl => ?_)
              have J_71 : ∀ (n_71 : Nat) (k : Int) (wt1 : Int → Int) (hk : 0 ≤ k ∧ k ≤ 1525) (hG : GT pr (fun z : Int => dm (5 * i + z)) gp rm mn wks wt1 (wh + 1)) (hQt : GQ pr (fun z : Int => dm (5 * i + z)) gp rm mn wks wt1 wh k) (hm_71 : ((1525 - k).toNat) < n_71) (H : Heap) (locs : List Loc) (hP : va_P D vwCl [(h, ob 4 [iv wks, iv wk, .ref r1, .ref r2, iv gp, iv rm, iv mv, .ref r3, .ref r4, .ref r5, .ref r6, iv tk, .ref r7, iv th]), (r1, ar cI 5 pr), (r2, ar cI 15 dm), (r3, ar cI 9 sk), (r4, ar cI 3 sx), (r5, ar cI 3 la), (r7, ar cI 16775 wt1)] H) (hD : va_D A [(h, ob 4 [iv wks, iv wk, .ref r1, .ref r2, iv gp, iv rm, iv mv, .ref r3, .ref r4, .ref r5, .ref r6, iv tk, .ref r7, iv th]), (r1, ar cI 5 pr), (r2, ar cI 15 dm), (r3, ar cI 9 sk), (r4, ar cI 3 sx), (r5, ar cI 3 la), (r7, ar cI 16775 wt1)]) (hS : va_S A s.heap H locs) (ls : Array Slot) (hl : lv_has ls 9 [(0, .ref h), (1, iv i), (2, iv mn), (3, iv wh), (4, iv k)]), W p l e rm_X4_finds s m args below meth c H locs 0 0 Q (F0 m 71 ls []) := by
                intro n_71
                induction n_71 with
                | zero => intro k wt1 hk hG hQt hm_71 H locs hP hD hS ls hl; exact absurd hm_71 (Nat.not_lt_zero _)
                | succ n_71 ih_71 =>
                  intro k wt1 hk hG hQt hm_71 H locs hP hD hS ls hl
                  refine lv_iload hx hb dX4_finds_71 (lv_at hl 4 rfl) ?_
                  refine lv_sipush (v := zI 1525) hx hb dX4_finds_73 (by decide) ?_
                  refine i_icmp_ge (tgt := 168) hx hb ⟨by omega, by omega⟩ ⟨by decide, by decide⟩ dX4_finds_76 (by decide) (fun c_3 => ?_) (fun c_3 => ?_)
                  · skip
                    refine i_iinc (n := (-1)) (lv' := [(3, iv (wh + (-1))), (0, .ref h), (1, iv i), (2, iv mn), (4, iv k)]) hx hb dX4_finds_168 hl (k := 3) rfl (by decide) rfl (fun ls hl => ?_)
                    refine lv_goto (tgt := 60) hx hb dX4_finds_171 (by decide) ?_
                    exact ih_60 (wh + (-1)) wt1 (by omega) (by rw [show wh + -1 + 1 = wh by omega]; exact hG.down (by rw [← show k = 1525 by omega]; exact hQt)) (by omega) _ _ (hP.sub [0, 1, 2, 3, 4, 5, 6] rfl) (hD.sub [0, 1, 2, 3, 4, 5, 6] (by decide) rfl) hS ls (lv_sub hl [1, 2, 3, 0] rfl)
                  · skip
                    refine lv_iload hx hb dX4_finds_79 (lv_at hl 4 rfl) ?_
                    refine lv_bipush (v := zI 61) hx hb dX4_finds_81 (by decide) ?_
                    refine i_idiv hx hb (by omega) (by omega) (by decide) (by decide) dX4_finds_83 ?_
                    refine lv_iconst (v := zI 5) hx hb dX4_finds_84 rfl ?_
                    refine i_idiv hx hb (by omega) (by omega) (by decide) (by decide) dX4_finds_85 ?_
                    refine lv_istore (lv' := [(5, iv ((k / 61) / 5)), (0, .ref h), (1, iv i), (2, iv mn), (3, iv wh), (4, iv k)]) hx hb dX4_finds_86 hl (by decide) rfl (fun ls hl => ?_)
                    refine lv_iconst (v := zI (-1)) hx hb dX4_finds_88 rfl ?_
                    refine lv_istore (lv' := [(6, iv (-1)), (5, iv ((k / 61) / 5)), (0, .ref h), (1, iv i), (2, iv mn), (3, iv wh), (4, iv k)]) hx hb dX4_finds_89 hl (by decide) rfl (fun ls hl => ?_)
                    refine lv_iload hx hb dX4_finds_91 (lv_at hl 1 rfl) ?_
                    refine lv_istore (lv' := [(7, iv ((k / 61) / 5)), (6, iv (-1)), (5, iv ((k / 61) / 5)), (0, .ref h), (1, iv i), (2, iv mn), (3, iv wh), (4, iv k)]) hx hb dX4_finds_93 hl (by decide) rfl (fun ls hl => ?_)
                    have J_95 : ∀ (n_95 : Nat) (ii : Int) (gr : Int) (hii : k / 61 / 5 ≤ ii ∧ ii ≤ 5) (hgr : gr = mxf (cand (pv pr (fun z : Int => dm (5 * i + z)) gp rm mn (wks - wh - 1).toNat) pr (fun z : Int => dm (5 * i + z)) gp (k / 61 / 5) (k / 61 % 5) (k % 61)) (k / 61 / 5) (ii - k / 61 / 5).toNat) (hm_95 : ((5 - ii).toNat) < n_95) (ls : Array Slot) (hl : lv_has ls 9 [(0, .ref h), (1, iv i), (2, iv mn), (3, iv wh), (4, iv k), (5, iv (k / 61 / 5)), (6, iv gr), (7, iv ii)]), W p l e rm_X4_finds s m args below meth c H locs 0 0 Q (F0 m 95 ls []) := by
                      intro n_95
                      induction n_95 with
                      | zero => intro ii gr hii hgr hm_95 ls hl; exact absurd hm_95 (Nat.not_lt_zero _)
                      | succ n_95 ih_95 =>
                        intro ii gr hii hgr hm_95 ls hl
                        have hg0 : -1 ≤ gr := by rw [hgr]; exact mxf_ge _ _ _
                        have hg1 : gr ≤ 60000 := by
                          rw [hgr]
                          refine mxf_le (by omega) _ (fun j hj => ?_)
                          have h9 := (cand_in (pr := pr) (d := fun z : Int => dm (5 * i + z)) (g := gp) (r := rm) (ml := mn) (b := k / 61 / 5) (i := k / 61 / 5 + j) (l := k % 61) (w := k / 61 % 5) hd0 hpr hrm (wks - wh - 1).toNat (by omega) (by omega) (by omega)).2
                          omega
                        refine lv_iload hx hb dX4_finds_95 (lv_at hl 7 rfl) ?_
                        refine lv_iconst (v := zI 5) hx hb dX4_finds_97 rfl ?_
                        refine i_icmp_ge (tgt := 147) hx hb ⟨by omega, by omega⟩ ⟨by decide, by decide⟩ dX4_finds_98 (by decide) (fun c_4 => ?_) (fun c_4 => ?_)
                        · skip
                          refine lv_aload_n hx hb dX4_finds_147 rfl (lv_at hl 0 rfl) ?_
                          refine va_get (D := D) (ci := 4) (v := .ref r7) (C := RX4) (T := TX4) (N := 14) hx hb hts inX4 hown hK hP 0 rfl rfl 12 (by decide) w2 (fun _ h9 => h9) rfl dX4_finds_148 ?_
                          refine lv_sipush (v := zI 1525) hx hb dX4_finds_151 (by decide) ?_
                          refine lv_iload_n hx hb dX4_finds_154 rfl (lv_at hl 3 rfl) ?_
                          refine i_imul hx hb dX4_finds_155 ?_
                          refine lv_iload hx hb dX4_finds_156 (lv_at hl 4 rfl) ?_
                          refine i_iadd hx hb dX4_finds_158 ?_
                          refine lv_iload hx hb dX4_finds_159 (lv_at hl 6 rfl) ?_
                          refine i_iast hx hb hK hP hD hS 6 0 rfl rfl (by omega) (by omega) (by decide) dX4_finds_161 (fun H locs hP hD hS => ?_)
                          have hP : va_P D vwCl [(h, ob 4 [iv wks, iv wk, .ref r1, .ref r2, iv gp, iv rm, iv mv, .ref r3, .ref r4, .ref r5, .ref r6, iv tk, .ref r7, iv th]), (r1, ar cI 5 pr), (r2, ar cI 15 dm), (r3, ar cI 9 sk), (r4, ar cI 3 sx), (r5, ar cI 3 la), (r7, ar cI 16775 (ui wt1 ((1525 * wh) + k) gr))] H := hP
                          have hD : va_D A [(h, ob 4 [iv wks, iv wk, .ref r1, .ref r2, iv gp, iv rm, iv mv, .ref r3, .ref r4, .ref r5, .ref r6, iv tk, .ref r7, iv th]), (r1, ar cI 5 pr), (r2, ar cI 15 dm), (r3, ar cI 9 sk), (r4, ar cI 3 sx), (r5, ar cI 3 la), (r7, ar cI 16775 (ui wt1 ((1525 * wh) + k) gr))] := hD
                          refine i_iinc (n := 1) (lv' := [(4, iv (k + 1)), (0, .ref h), (1, iv i), (2, iv mn), (3, iv wh), (5, iv (k / 61 / 5)), (6, iv gr), (7, iv ii)]) hx hb dX4_finds_162 hl (k := 4) rfl (by decide) rfl (fun ls hl => ?_)
                          refine lv_goto (tgt := 71) hx hb dX4_finds_165 (by decide) ?_
                          exact ih_71 (k + 1) (ui wt1 ((1525 * wh) + k) gr) (by omega) (hG.put hk.1 (by omega)) (hQt.put hk.1 (by rw [hgr, show ii = 5 by omega, show (wks - wh).toNat = (wks - wh - 1).toNat + 1 by omega]; rfl)) (by omega) _ _ (hP.sub [0, 1, 2, 3, 4, 5, 6] rfl) (hD.sub [0, 1, 2, 3, 4, 5, 6] (by decide) rfl) hS ls (lv_sub hl [1, 2, 3, 4, 0] rfl)
                        · skip
                          refine lv_aload_n hx hb dX4_finds_101 rfl (lv_at hl 0 rfl) ?_
                          refine lv_iload_n hx hb dX4_finds_102 rfl (lv_at hl 1 rfl) ?_
                          refine lv_iload_n hx hb dX4_finds_103 rfl (lv_at hl 3 rfl) ?_
                          refine lv_iload hx hb dX4_finds_104 (lv_at hl 5 rfl) ?_
                          refine lv_iload hx hb dX4_finds_106 (lv_at hl 4 rfl) ?_
                          refine lv_bipush (v := zI 61) hx hb dX4_finds_108 (by decide) ?_
                          refine i_idiv hx hb (by omega) (by omega) (by decide) (by decide) dX4_finds_110 ?_
                          refine lv_iconst (v := zI 5) hx hb dX4_finds_111 rfl ?_
                          refine i_irem hx hb (by omega) (by omega) (by decide) (by decide) dX4_finds_112 ?_
                          refine lv_iload hx hb dX4_finds_113 (lv_at hl 4 rfl) ?_
                          refine lv_bipush (v := zI 61) hx hb dX4_finds_115 (by decide) ?_
                          refine i_irem hx hb (by omega) (by omega) (by decide) (by decide) dX4_finds_117 ?_
                          refine lv_iload hx hb dX4_finds_118 (lv_at hl 7 rfl) ?_
                          refine ms_P (va_runV (As := [iv i, iv wh, iv (k / 61 / 5), iv ((k / 61) % 5), iv (k % 61), iv ii]) (rest := []) ⟨hx, hb, hml, hown, hts⟩ (mt_X4_worthOf l D cI cS cJ h r1 r2 r3 r4 r5 r6 r7 wks wk gp rm mv tk th pr dm wt1 i mn wh (k / 61 / 5) ((k / 61) % 5) (k % 61) ii (by omega) (by omega) (by omega) (hpr) (hdm) (by omega) (by omega) (by omega) (by omega) (by omega) (by omega) (hG)) (cwV 6 hts gX4_finds_X4_worthOf rfl rfl rfl (by decide +kernel) ⟨Nat.le_of_ble_eq_true rfl, Nat.le_of_ble_eq_true rfl⟩) (pc_V (ci := 4) (q0 := 0) hK (hP.sub (ws' := [(h, ob 4 [iv wks, iv wk, .ref r1, .ref r2, iv gp, iv rm, iv mv, .ref r3, .ref r4, .ref r5, .ref r6, iv tk, .ref r7, iv th]), (r1, ar cI 5 pr), (r2, ar cI 15 dm), (r7, ar cI 16775 wt1)]) [0, 1, 2, 6] rfl) rfl rfl (pcP_S hE hK (hP.sub (ws' := [(h, ob 4 [iv wks, iv wk, .ref r1, .ref r2, iv gp, iv rm, iv mv, .ref r3, .ref r4, .ref r5, .ref r6, iv tk, .ref r7, iv th]), (r1, ar cI 5 pr), (r2, ar cI 15 dm), (r7, ar cI 16775 wt1)]) [0, 1, 2, 6] rfl))) rfl rfl hl.1 rfl (lv_room (Nat.le_of_ble_eq_true rfl)) dX4_finds_120 ⟨Nat.le_of_ble_eq_true rfl, Nat.le_of_ble_eq_true rfl⟩) ?_
                          refine i_name (fun cv hcv => ?_)
                          have hcb := cand_in (pr := pr) (d := fun z : Int => dm (5 * i + z)) (g := gp) (r := rm) (ml := mn) (b := k / 61 / 5) (i := ii) (l := k % 61) (w := k / 61 % 5) hd0 hpr hrm (wks - wh - 1).toNat (by omega) (by omega) (by omega)
                          rw [← hcv] at hcb
                          refine lv_istore (lv' := [(8, iv cv), (0, .ref h), (1, iv i), (2, iv mn), (3, iv wh), (4, iv k), (5, iv (k / 61 / 5)), (6, iv gr), (7, iv ii)]) hx hb dX4_finds_123 hl (by decide) rfl (fun ls hl => ?_)
                          refine lv_iload hx hb dX4_finds_125 (lv_at hl 0 rfl) ?_
                          refine lv_iload hx hb dX4_finds_127 (lv_at hl 7 rfl) ?_
                          refine i_icmp_le (tgt := 137) hx hb ⟨by omega, by omega⟩ ⟨by omega, by omega⟩ dX4_finds_129 (by decide) (fun c_5 => ?_) (fun c_5 => ?_)
                          · skip
                            refine lv_iload hx hb dX4_finds_137 (lv_at hl 7 rfl) ?_
                            refine lv_istore (lv' := [(6, iv gr), (8, iv cv), (0, .ref h), (1, iv i), (2, iv mn), (3, iv wh), (4, iv k), (5, iv (k / 61 / 5)), (7, iv ii)]) hx hb dX4_finds_139 hl (by decide) rfl (fun ls hl => ?_)
                            refine i_iinc (n := 1) (lv' := [(7, iv (ii + 1)), (6, iv gr), (8, iv cv), (0, .ref h), (1, iv i), (2, iv mn), (3, iv wh), (4, iv k), (5, iv (k / 61 / 5))]) hx hb dX4_finds_141 hl (k := 8) rfl (by decide) rfl (fun ls hl => ?_)
                            refine lv_goto (tgt := 95) hx hb dX4_finds_144 (by decide) ?_
                            exact ih_95 (ii + 1) gr (by omega) (by rw [mxf_step hii.1, ← hgr, ← hcv]; omega) (by omega) ls (lv_sub hl [3, 4, 5, 6, 7, 8, 1, 0] rfl)
                          · skip
                            refine lv_iload hx hb dX4_finds_132 (lv_at hl 0 rfl) ?_
                            refine lv_goto (tgt := 139) hx hb dX4_finds_134 (by decide) ?_
                            refine lv_istore (lv' := [(6, iv cv), (8, iv cv), (0, .ref h), (1, iv i), (2, iv mn), (3, iv wh), (4, iv k), (5, iv (k / 61 / 5)), (7, iv ii)]) hx hb dX4_finds_139 hl (by decide) rfl (fun ls hl => ?_)
                            refine i_iinc (n := 1) (lv' := [(7, iv (ii + 1)), (6, iv cv), (8, iv cv), (0, .ref h), (1, iv i), (2, iv mn), (3, iv wh), (4, iv k), (5, iv (k / 61 / 5))]) hx hb dX4_finds_141 hl (k := 8) rfl (by decide) rfl (fun ls hl => ?_)
                            refine lv_goto (tgt := 95) hx hb dX4_finds_144 (by decide) ?_
                            exact ih_95 (ii + 1) cv (by omega) (by rw [mxf_step hii.1, ← hgr, ← hcv]; omega) (by omega) ls (lv_sub hl [3, 4, 5, 6, 7, 8, 1, 0] rfl)
                    exact J_95 _ ((k / 61) / 5) (-1) (by omega) (by rw [show (k / 61 / 5 - k / 61 / 5).toNat = 0 by omega]; rfl) (Nat.lt_succ_self _) ls (lv_sub hl [3, 4, 5, 6, 7, 2, 1, 0] rfl)
              exact J_71 _ 0 wt1 (by omega) (hG) (GQ.zero) (Nat.lt_succ_self _) _ _ (hP.sub [0, 1, 2, 3, 4, 5, 6] rfl) (hD.sub [0, 1, 2, 3, 4, 5, 6] (by decide) rfl) hS ls (lv_sub hl [1, 2, 3, 4, 0] rfl)
        exact J_60 _ (wks - 1) wt1 (by omega) (by intro wk1 st w lf q1 q2; have e9 : wk1 = wks := (by omega); subst e9; intro q3 q4 q5 q6 q7 q8; exact hQt st w lf q3 q4 q5 q6 q7 q8 (by omega)) (Nat.lt_succ_self _) _ _ (hP.sub [0, 1, 2, 3, 4, 5, 6] rfl) (hD.sub [0, 1, 2, 3, 4, 5, 6] (by decide) rfl) hS ls (lv_sub hl [1, 2, 3, 0] rfl)
      · skip
        refine lv_iload_n hx hb dX4_finds_9 rfl (lv_at hl 3 rfl) ?_
        refine lv_bipush (v := zI 61) hx hb dX4_finds_10 (by decide) ?_
        refine i_irem hx hb (by omega) (by omega) (by decide) (by decide) dX4_finds_12 ?_
        refine lv_istore (lv' := [(4, iv (k % 61)), (0, .ref h), (1, iv i), (2, iv mn), (3, iv k)]) hx hb dX4_finds_13 hl (by decide) rfl (fun ls hl => ?_)
        refine lv_aload_n hx hb dX4_finds_15 rfl (lv_at hl 1 rfl) ?_
        refine va_get (D := D) (ci := 4) (v := .ref r7) (C := RX4) (T := TX4) (N := 14) hx hb hts inX4 hown hK hP 0 rfl rfl 12 (by decide) w2 (fun _ h9 => h9) rfl dX4_finds_16 ?_
        refine lv_sipush (v := zI 1525) hx hb dX4_finds_19 (by decide) ?_
        refine lv_aload_n hx hb dX4_finds_22 rfl (lv_at hl 1 rfl) ?_
        refine va_get (D := D) (ci := 4) (v := iv wks) (C := RX4) (T := TX4) (N := 14) hx hb hts inX4 hown hK hP 0 rfl rfl 0 (by decide) w0 (fun _ h9 => h9) rfl dX4_finds_23 ?_
        refine i_imul hx hb dX4_finds_26 ?_
        refine lv_iload_n hx hb dX4_finds_27 rfl (lv_at hl 4 rfl) ?_
        refine i_iadd hx hb dX4_finds_28 ?_
        refine lv_iload hx hb dX4_finds_29 (lv_at hl 0 rfl) ?_
        refine lv_iload_n hx hb dX4_finds_31 rfl (lv_at hl 3 rfl) ?_
        refine i_icmp_gt (tgt := 45) hx hb ⟨by omega, by omega⟩ ⟨by omega, by omega⟩ dX4_finds_32 (by decide) (fun c_6 => ?_) (fun c_6 => ?_)
        · skip
          refine lv_iconst (v := zI (-1)) hx hb dX4_finds_45 rfl ?_
          refine i_iast hx hb hK hP hD hS 6 0 rfl rfl (by omega) (by omega) (by decide) dX4_finds_46 (fun H locs hP hD hS => ?_)
          have hP : va_P D vwCl [(h, ob 4 [iv wks, iv wk, .ref r1, .ref r2, iv gp, iv rm, iv mv, .ref r3, .ref r4, .ref r5, .ref r6, iv tk, .ref r7, iv th]), (r1, ar cI 5 pr), (r2, ar cI 15 dm), (r3, ar cI 9 sk), (r4, ar cI 3 sx), (r5, ar cI 3 la), (r7, ar cI 16775 (ui wt1 ((1525 * wks) + k) (-1)))] H := hP
          have hD : va_D A [(h, ob 4 [iv wks, iv wk, .ref r1, .ref r2, iv gp, iv rm, iv mv, .ref r3, .ref r4, .ref r5, .ref r6, iv tk, .ref r7, iv th]), (r1, ar cI 5 pr), (r2, ar cI 15 dm), (r3, ar cI 9 sk), (r4, ar cI 3 sx), (r5, ar cI 3 la), (r7, ar cI 16775 (ui wt1 ((1525 * wks) + k) (-1)))] := hD
          refine i_iinc (n := 1) (lv' := [(3, iv (k + 1)), (4, iv (k % 61)), (0, .ref h), (1, iv i), (2, iv mn)]) hx hb dX4_finds_47 hl (k := 4) rfl (by decide) rfl (fun ls hl => ?_)
          refine lv_goto (tgt := 2) hx hb dX4_finds_50 (by decide) ?_
          exact ih_2 (k + 1) (ui wt1 ((1525 * wks) + k) (-1)) (by omega) (hQt.put hk.1 (by rw [show (wks - wks).toNat = 0 by omega]; exact (if_neg (by omega)).symm)) (by omega) _ _ (hP.sub [0, 1, 2, 3, 4, 5, 6] rfl) (hD.sub [0, 1, 2, 3, 4, 5, 6] (by decide) rfl) hS ls (lv_sub hl [2, 3, 4, 0] rfl)
        · skip
          refine lv_iload hx hb dX4_finds_35 (lv_at hl 0 rfl) ?_
          refine lv_aload_n hx hb dX4_finds_37 rfl (lv_at hl 1 rfl) ?_
          refine va_get (D := D) (ci := 4) (v := iv rm) (C := RX4) (T := TX4) (N := 14) hx hb hts inX4 hown hK hP 0 rfl rfl 5 (by decide) w4 (fun _ h9 => h9) rfl dX4_finds_38 ?_
          refine i_imul hx hb dX4_finds_41 ?_
          refine lv_goto (tgt := 46) hx hb dX4_finds_42 (by decide) ?_
          refine i_iast hx hb hK hP hD hS 6 0 rfl rfl (by omega) (by omega) (by decide) dX4_finds_46 (fun H locs hP hD hS => ?_)
          have hP : va_P D vwCl [(h, ob 4 [iv wks, iv wk, .ref r1, .ref r2, iv gp, iv rm, iv mv, .ref r3, .ref r4, .ref r5, .ref r6, iv tk, .ref r7, iv th]), (r1, ar cI 5 pr), (r2, ar cI 15 dm), (r3, ar cI 9 sk), (r4, ar cI 3 sx), (r5, ar cI 3 la), (r7, ar cI 16775 (ui wt1 ((1525 * wks) + k) ((k % 61) * rm)))] H := hP
          have hD : va_D A [(h, ob 4 [iv wks, iv wk, .ref r1, .ref r2, iv gp, iv rm, iv mv, .ref r3, .ref r4, .ref r5, .ref r6, iv tk, .ref r7, iv th]), (r1, ar cI 5 pr), (r2, ar cI 15 dm), (r3, ar cI 9 sk), (r4, ar cI 3 sx), (r5, ar cI 3 la), (r7, ar cI 16775 (ui wt1 ((1525 * wks) + k) ((k % 61) * rm)))] := hD
          refine i_iinc (n := 1) (lv' := [(3, iv (k + 1)), (4, iv (k % 61)), (0, .ref h), (1, iv i), (2, iv mn)]) hx hb dX4_finds_47 hl (k := 4) rfl (by decide) rfl (fun ls hl => ?_)
          refine lv_goto (tgt := 2) hx hb dX4_finds_50 (by decide) ?_
          exact ih_2 (k + 1) (ui wt1 ((1525 * wks) + k) ((k % 61) * rm)) (by omega) (hQt.put hk.1 (by rw [show (wks - wks).toNat = 0 by omega]; exact (if_pos (by omega)).symm)) (by omega) _ _ (hP.sub [0, 1, 2, 3, 4, 5, 6] rfl) (hD.sub [0, 1, 2, 3, 4, 5, 6] (by decide) rfl) hS ls (lv_sub hl [2, 3, 4, 0] rfl)
  exact J_2 _ 0 wt (by omega) (GQ.zero) (Nat.lt_succ_self _) _ _ (hP.sub [0, 1, 2, 3, 4, 5, 6] rfl) (hD.sub [0, 1, 2, 3, 4, 5, 6] (by decide) rfl) hS ls (lv_sub hl [1, 2, 3, 0] rfl)
