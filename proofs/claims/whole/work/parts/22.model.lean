abbrev rm_X4_thrown : Room := { frames := 0, cells := 0, slots := 0, locals := 0 }
set_option maxHeartbeats 4000000 in
set_option maxRecDepth 100000 in
theorem mt_X4_thrown (l : Launch) (D : va_G) (cI cS cJ : ClassId) (h : Nat) (r1 : Nat) (r2 : Nat) (r3 : Nat) (r4 : Nat) (r5 : Nat) (r6 : Nat) (r7 : Nat) (wks : Int) (wk : Int) (gp : Int) (rm : Int) (mv : Int) (tk : Int) (th : Int)  : cP l yX4_thrown wsX4_thrown rm_X4_thrown [.ref h] D (tyL cI cS cJ) [(h, ob 4 [iv wks, iv wk, .ref r1, .ref r2, iv gp, iv rm, iv mv, .ref r3, .ref r4, .ref r5, .ref r6, iv tk, .ref r7, iv th])] (zI (th)) := by
  refine en_P (cc := cX4_thrown) (maxL := 1) (ret := (some .int)) (by decide) rfl (Nat.le_of_ble_eq_true rfl) ?_
  intro p e s m args below meth c ls hX hE hP hK hl Q hQ
  obtain ⟨hx, hb, hr, hml, hts, hown, hlocks, hnm⟩ := hX
  have hown : s.vm.findClass RX4 = some m.cls := hown
  have hl : lv_has ls 1 [(0, .ref h)] := hl
  have inX4 : ∀ w ∈ u_ws RX4 TX4 14, w ∈ wsX4_thrown := by decide +kernel
  have w0 : (Cond.fieldLink RX4 38 RX4 "thrown" "I").before args s = true := hts _ (by decide +kernel)
  refine lv_aload_n hx hb dX4_thrown_0 rfl (lv_at hl 0 rfl) ?_
  refine va_get (D := D) (ci := 4) (v := iv th) (C := RX4) (T := TX4) (N := 14) hx hb hts inX4 hown hK hP 0 rfl rfl 13 (by decide) w0 (fun _ h9 => h9) rfl dX4_thrown_1 ?_
  subst hQ
  exact r_P hx hb hr hlocks (by rfl) dX4_thrown_4 (by first | rfl | (congr 1; omega))

abbrev rm_X4_in : Room := { frames := 0, cells := 0, slots := 0, locals := 0 }
set_option maxHeartbeats 4000000 in
set_option maxRecDepth 100000 in
theorem mt_X4_in (l : Launch) (D : va_G) (cI cS cJ : ClassId) (v : Int) (lo : Int) (hi : Int) (bv : -2147483648 ≤ v ∧ v < 2147483648) (bl : -100000 ≤ lo ∧ lo < 100000) (bh : -100000 ≤ hi ∧ hi < 100000) : cP l yX4_in wsX4_in rm_X4_in [iv v, iv lo, iv hi] D (tyL cI cS cJ) [] (zI (if lo ≤ v ∧ v ≤ hi then 1 else 0)) := by
  refine en_P (cc := cX4_in) (maxL := 3) (ret := (some .boolean)) (by decide) rfl (Nat.le_of_ble_eq_true rfl) ?_
  intro p e s m args below meth c ls hX hE hP hK hl Q hQ
  obtain ⟨hx, hb, hr, hml, hts, hown, hlocks, hnm⟩ := hX
  have hown : s.vm.findClass RX4 = some m.cls := hown
  have hl : lv_has ls 3 [(0, iv v), (1, iv lo), (2, iv hi)] := hl
  refine lv_iload_n hx hb dX4_in_0 rfl (lv_at hl 0 rfl) ?_
  refine lv_iload_n hx hb dX4_in_1 rfl (lv_at hl 1 rfl) ?_
  refine i_icmp_lt (tgt := 14) hx hb ⟨by omega, by omega⟩ ⟨by omega, by omega⟩ dX4_in_2 (by decide) (fun c_1 => ?_) (fun c_1 => ?_)
  · skip
    refine lv_iconst (v := zI 0) hx hb dX4_in_14 rfl ?_
    subst hQ
    exact r_P hx hb hr hlocks (by first | rfl | decide) dX4_in_15 (by first | exact congrArg zI (if_pos (by omega)).symm | exact congrArg zI (if_neg (by omega)).symm)
  · skip
    refine lv_iload_n hx hb dX4_in_5 rfl (lv_at hl 0 rfl) ?_
    refine lv_iload_n hx hb dX4_in_6 rfl (lv_at hl 2 rfl) ?_
    refine i_icmp_gt (tgt := 14) hx hb ⟨by omega, by omega⟩ ⟨by omega, by omega⟩ dX4_in_7 (by decide) (fun c_2 => ?_) (fun c_2 => ?_)
    · skip
      refine lv_iconst (v := zI 0) hx hb dX4_in_14 rfl ?_
      subst hQ
      exact r_P hx hb hr hlocks (by first | rfl | decide) dX4_in_15 (by first | exact congrArg zI (if_pos (by omega)).symm | exact congrArg zI (if_neg (by omega)).symm)
    · skip
      refine lv_iconst (v := zI 1) hx hb dX4_in_10 rfl ?_
      refine lv_goto (tgt := 15) hx hb dX4_in_11 (by decide) ?_
      subst hQ
      exact r_P hx hb hr hlocks (by first | rfl | decide) dX4_in_15 (by first | exact congrArg zI (if_pos (by omega)).symm | exact congrArg zI (if_neg (by omega)).symm)

abbrev rm_X4_isStore : Room := { frames := 1, cells := 0, slots := 0, locals := 22 }
set_option maxHeartbeats 4000000 in
set_option maxRecDepth 100000 in
theorem mt_X4_isStore (l : Launch) (D : va_G) (cI cS cJ : ClassId) (v : Int) (bv : -2147483648 ≤ v ∧ v < 2147483648) : cP l yX4_isStore wsX4_isStore rm_X4_isStore [iv v] D (tyL cI cS cJ) [] (zI (if 0 ≤ v ∧ v < 3 then 1 else 0)) := by
  refine en_P (cc := cX4_isStore) (maxL := 1) (ret := (some .boolean)) (by decide) rfl (Nat.le_of_ble_eq_true rfl) ?_
  intro p e s m args below meth c ls hX hE hP hK hl Q hQ
  obtain ⟨hx, hb, hr, hml, hts, hown, hlocks, hnm⟩ := hX
  have hown : s.vm.findClass RX4 = some m.cls := hown
  have hl : lv_has ls 1 [(0, iv v)] := hl
  refine lv_iload_n hx hb dX4_isStore_0 rfl (lv_at hl 0 rfl) ?_
  refine lv_iconst (v := zI 0) hx hb dX4_isStore_1 rfl ?_
  refine lv_iconst (v := zI 2) hx hb dX4_isStore_2 rfl ?_
  refine ms_P (va_runS (As := [iv v, iv 0, iv 2]) (rest := []) ⟨hx, hb, hml, hown, hts⟩ (mt_X4_in l D cI cS cJ v 0 2 (by omega) (by omega) (by omega)) (va_cwS 3 hts gX4_isStore_X4_in rfl rfl rfl (by decide +kernel) ⟨Nat.le_of_ble_eq_true rfl, Nat.le_of_ble_eq_true rfl⟩) (pcP_S hE hK (hP.sub (ws' := []) [] rfl)) rfl rfl hl.1 rfl (lv_room (Nat.le_of_ble_eq_true rfl)) dX4_isStore_3 ⟨Nat.le_of_ble_eq_true rfl, Nat.le_of_ble_eq_true rfl⟩) ?_
  rcases Classical.em (0 ≤ v ∧ v ≤ 2) with c_1 | c_1
  · skip
    refine i_eqz (y := 1) (if_pos c_1) ?_
    subst hQ
    exact r_P hx hb hr hlocks (by first | rfl | decide) dX4_isStore_6 (by first | exact congrArg zI (if_pos (by omega)).symm | exact congrArg zI (if_neg (by omega)).symm)
  · skip
    refine i_eqz (y := 0) (if_neg c_1) ?_
    subst hQ
    exact r_P hx hb hr hlocks (by first | rfl | decide) dX4_isStore_6 (by first | exact congrArg zI (if_pos (by omega)).symm | exact congrArg zI (if_neg (by omega)).symm)

abbrev rm_X4_isSize : Room := { frames := 1, cells := 0, slots := 0, locals := 22 }
set_option maxHeartbeats 4000000 in
set_option maxRecDepth 100000 in
theorem mt_X4_isSize (l : Launch) (D : va_G) (cI cS cJ : ClassId) (v : Int) (bv : -2147483648 ≤ v ∧ v < 2147483648) : cP l yX4_isSize wsX4_isSize rm_X4_isSize [iv v] D (tyL cI cS cJ) [] (zI (if 0 ≤ v ∧ v < 3 then 1 else 0)) := by
  refine en_P (cc := cX4_isSize) (maxL := 1) (ret := (some .boolean)) (by decide) rfl (Nat.le_of_ble_eq_true rfl) ?_
  intro p e s m args below meth c ls hX hE hP hK hl Q hQ
  obtain ⟨hx, hb, hr, hml, hts, hown, hlocks, hnm⟩ := hX
  have hown : s.vm.findClass RX4 = some m.cls := hown
  have hl : lv_has ls 1 [(0, iv v)] := hl
  refine lv_iload_n hx hb dX4_isSize_0 rfl (lv_at hl 0 rfl) ?_
  refine lv_iconst (v := zI 0) hx hb dX4_isSize_1 rfl ?_
  refine lv_iconst (v := zI 2) hx hb dX4_isSize_2 rfl ?_
  refine ms_P (va_runS (As := [iv v, iv 0, iv 2]) (rest := []) ⟨hx, hb, hml, hown, hts⟩ (mt_X4_in l D cI cS cJ v 0 2 (by omega) (by omega) (by omega)) (va_cwS 3 hts gX4_isSize_X4_in rfl rfl rfl (by decide +kernel) ⟨Nat.le_of_ble_eq_true rfl, Nat.le_of_ble_eq_true rfl⟩) (pcP_S hE hK (hP.sub (ws' := []) [] rfl)) rfl rfl hl.1 rfl (lv_room (Nat.le_of_ble_eq_true rfl)) dX4_isSize_3 ⟨Nat.le_of_ble_eq_true rfl, Nat.le_of_ble_eq_true rfl⟩) ?_
  rcases Classical.em (0 ≤ v ∧ v ≤ 2) with c_1 | c_1
  · skip
    refine i_eqz (y := 1) (if_pos c_1) ?_
    subst hQ
    exact r_P hx hb hr hlocks (by first | rfl | decide) dX4_isSize_6 (by first | exact congrArg zI (if_pos (by omega)).symm | exact congrArg zI (if_neg (by omega)).symm)
  · skip
    refine i_eqz (y := 0) (if_neg c_1) ?_
    subst hQ
    exact r_P hx hb hr hlocks (by first | rfl | decide) dX4_isSize_6 (by first | exact congrArg zI (if_pos (by omega)).symm | exact congrArg zI (if_neg (by omega)).symm)

abbrev rm_X4_isStep : Room := { frames := 1, cells := 0, slots := 0, locals := 22 }
set_option maxHeartbeats 4000000 in
set_option maxRecDepth 100000 in
theorem mt_X4_isStep (l : Launch) (D : va_G) (cI cS cJ : ClassId) (v : Int) (bv : -2147483648 ≤ v ∧ v < 2147483648) : cP l yX4_isStep wsX4_isStep rm_X4_isStep [iv v] D (tyL cI cS cJ) [] (zI (if 0 ≤ v ∧ v < 5 then 1 else 0)) := by
  refine en_P (cc := cX4_isStep) (maxL := 1) (ret := (some .boolean)) (by decide) rfl (Nat.le_of_ble_eq_true rfl) ?_
  intro p e s m args below meth c ls hX hE hP hK hl Q hQ
  obtain ⟨hx, hb, hr, hml, hts, hown, hlocks, hnm⟩ := hX
  have hown : s.vm.findClass RX4 = some m.cls := hown
  have hl : lv_has ls 1 [(0, iv v)] := hl
  refine lv_iload_n hx hb dX4_isStep_0 rfl (lv_at hl 0 rfl) ?_
  refine lv_iconst (v := zI 0) hx hb dX4_isStep_1 rfl ?_
  refine lv_iconst (v := zI 4) hx hb dX4_isStep_2 rfl ?_
  refine ms_P (va_runS (As := [iv v, iv 0, iv 4]) (rest := []) ⟨hx, hb, hml, hown, hts⟩ (mt_X4_in l D cI cS cJ v 0 4 (by omega) (by omega) (by omega)) (va_cwS 3 hts gX4_isStep_X4_in rfl rfl rfl (by decide +kernel) ⟨Nat.le_of_ble_eq_true rfl, Nat.le_of_ble_eq_true rfl⟩) (pcP_S hE hK (hP.sub (ws' := []) [] rfl)) rfl rfl hl.1 rfl (lv_room (Nat.le_of_ble_eq_true rfl)) dX4_isStep_3 ⟨Nat.le_of_ble_eq_true rfl, Nat.le_of_ble_eq_true rfl⟩) ?_
  rcases Classical.em (0 ≤ v ∧ v ≤ 4) with c_1 | c_1
  · skip
    refine i_eqz (y := 1) (if_pos c_1) ?_
    subst hQ
    exact r_P hx hb hr hlocks (by first | rfl | decide) dX4_isStep_6 (by first | exact congrArg zI (if_pos (by omega)).symm | exact congrArg zI (if_neg (by omega)).symm)
  · skip
    refine i_eqz (y := 0) (if_neg c_1) ?_
    subst hQ
    exact r_P hx hb hr hlocks (by first | rfl | decide) dX4_isStep_6 (by first | exact congrArg zI (if_pos (by omega)).symm | exact congrArg zI (if_neg (by omega)).symm)

abbrev rm_X4_asked1_0 : Room := { frames := 0, cells := 0, slots := 0, locals := 0 }
set_option maxHeartbeats 4000000 in
set_option maxRecDepth 100000 in
theorem mt_X4_asked1_0 (l : Launch) (D : va_G) (cI cS cJ : ClassId) (h : Nat) (r1 : Nat) (r2 : Nat) (r3 : Nat) (r4 : Nat) (r5 : Nat) (r6 : Nat) (r7 : Nat) (wks : Int) (wk : Int) (gp : Int) (rm : Int) (mv : Int) (tk : Int) (th : Int)  : cM l yX4_asked wsX4_asked rm_X4_asked1_0 [.ref h, iv 0] D (tyL cI cS cJ) [(h, ob 4 [iv wks, iv wk, .ref r1, .ref r2, iv gp, iv rm, iv mv, .ref r3, .ref r4, .ref r5, .ref r6, iv tk, .ref r7, iv th])] (fun r_ w_ => r_ = some (iv 0) ∧ w_ = [(h, ob 4 [iv wks, iv wk, .ref r1, .ref r2, iv gp, iv rm, iv mv, .ref r3, .ref r4, .ref r5, .ref r6, iv tk, .ref r7, iv 1])]) 0 0 := by
  refine en_M (cc := cX4_asked) (maxL := 2) (ret := (some .boolean)) (by decide) rfl (Nat.le_of_ble_eq_true rfl) ?_
  intro p e s m args below meth c ls A hX hE hP hK hD hS hA hl Q hQ
  obtain ⟨hx, hb, hr, hml, hts, hown, hlocks, hnm⟩ := hX
  have hown : s.vm.findClass RX4 = some m.cls := hown
  have hl : lv_has ls 2 [(0, .ref h), (1, iv 0)] := hl
  have inX4 : ∀ w ∈ u_ws RX4 TX4 14, w ∈ wsX4_asked := by decide +kernel
  have w0 : (Cond.fieldLink RX4 38 RX4 "thrown" "I").before args s = true := hts _ (by decide +kernel)
  refine lv_aload_n hx hb dX4_asked_0 rfl (lv_at hl 0 rfl) ?_
  refine lv_iload_n hx hb dX4_asked_1 rfl (lv_at hl 1 rfl) ?_
  refine i_if_eq (tgt := 9) hx hb ⟨by decide, by decide⟩ dX4_asked_2 (by decide) (fun c_1 => ?_) (fun c_1 => absurd (by decide) c_1)
  refine lv_iconst (v := zI 1) hx hb dX4_asked_9 rfl ?_
  refine va_put (D := D) (ci := 4) (v := iv 1) (ty := .int) (C := RX4) (T := TX4) (N := 14) hx hb hts inX4 tyX4 tyX4_ok nmX4 hown hK hP hD hS 0 rfl rfl 13 (by decide) w0 (fun _ h9 => h9) rfl (by decide +kernel) rfl rfl (Nat.le_of_ble_eq_true rfl) dX4_asked_10 (fun H locs hP hD hS => ?_)
  have hP : va_P D vwCl [(h, ob 4 [iv wks, iv wk, .ref r1, .ref r2, iv gp, iv rm, iv mv, .ref r3, .ref r4, .ref r5, .ref r6, iv tk, .ref r7, iv 1])] H := hP
  have hD : va_D A [(h, ob 4 [iv wks, iv wk, .ref r1, .ref r2, iv gp, iv rm, iv mv, .ref r3, .ref r4, .ref r5, .ref r6, iv tk, .ref r7, iv 1])] := hD
  refine lv_iload_n hx hb dX4_asked_13 rfl (lv_at hl 1 rfl) ?_
  subst hQ
  exact r_Mi hx hb hr hlocks (by first | rfl | decide) dX4_asked_14 hS (hP.sub (ws' := [(h, ob 4 [iv wks, iv wk, .ref r1, .ref r2, iv gp, iv rm, iv mv, .ref r3, .ref r4, .ref r5, .ref r6, iv tk, .ref r7, iv 1])]) [0] rfl) (hD.sub (ws' := [(h, ob 4 [iv wks, iv wk, .ref r1, .ref r2, iv gp, iv rm, iv mv, .ref r3, .ref r4, .ref r5, .ref r6, iv tk, .ref r7, iv 1])]) [0] (by decide) rfl) (⟨rfl, rfl⟩) (Nat.le_of_ble_eq_true rfl) (Nat.le_of_ble_eq_true rfl)

abbrev rm_X4_asked1_1 : Room := { frames := 0, cells := 0, slots := 0, locals := 0 }
set_option maxHeartbeats 4000000 in
set_option maxRecDepth 100000 in
theorem mt_X4_asked1_1 (l : Launch) (D : va_G) (cI cS cJ : ClassId) (h : Nat) (r1 : Nat) (r2 : Nat) (r3 : Nat) (r4 : Nat) (r5 : Nat) (r6 : Nat) (r7 : Nat) (wks : Int) (wk : Int) (gp : Int) (rm : Int) (mv : Int) (tk : Int) (th : Int)  : cM l yX4_asked wsX4_asked rm_X4_asked1_1 [.ref h, iv 1] D (tyL cI cS cJ) [(h, ob 4 [iv wks, iv wk, .ref r1, .ref r2, iv gp, iv rm, iv mv, .ref r3, .ref r4, .ref r5, .ref r6, iv tk, .ref r7, iv th])] (fun r_ w_ => r_ = some (iv 1) ∧ w_ = [(h, ob 4 [iv wks, iv wk, .ref r1, .ref r2, iv gp, iv rm, iv mv, .ref r3, .ref r4, .ref r5, .ref r6, iv tk, .ref r7, iv 0])]) 0 0 := by
  refine en_M (cc := cX4_asked) (maxL := 2) (ret := (some .boolean)) (by decide) rfl (Nat.le_of_ble_eq_true rfl) ?_
  intro p e s m args below meth c ls A hX hE hP hK hD hS hA hl Q hQ
  obtain ⟨hx, hb, hr, hml, hts, hown, hlocks, hnm⟩ := hX
  have hown : s.vm.findClass RX4 = some m.cls := hown
  have hl : lv_has ls 2 [(0, .ref h), (1, iv 1)] := hl
  have inX4 : ∀ w ∈ u_ws RX4 TX4 14, w ∈ wsX4_asked := by decide +kernel
  have w0 : (Cond.fieldLink RX4 38 RX4 "thrown" "I").before args s = true := hts _ (by decide +kernel)
  refine lv_aload_n hx hb dX4_asked_0 rfl (lv_at hl 0 rfl) ?_
  refine lv_iload_n hx hb dX4_asked_1 rfl (lv_at hl 1 rfl) ?_
  refine i_if_eq (tgt := 9) hx hb ⟨by decide, by decide⟩ dX4_asked_2 (by decide) (fun c_1 => absurd c_1 (by decide)) (fun c_1 => ?_)
  refine lv_iconst (v := zI 0) hx hb dX4_asked_5 rfl ?_
  refine lv_goto (tgt := 10) hx hb dX4_asked_6 (by decide) ?_
  refine va_put (D := D) (ci := 4) (v := iv 0) (ty := .int) (C := RX4) (T := TX4) (N := 14) hx hb hts inX4 tyX4 tyX4_ok nmX4 hown hK hP hD hS 0 rfl rfl 13 (by decide) w0 (fun _ h9 => h9) rfl (by decide +kernel) rfl rfl (Nat.le_of_ble_eq_true rfl) dX4_asked_10 (fun H locs hP hD hS => ?_)
  have hP : va_P D vwCl [(h, ob 4 [iv wks, iv wk, .ref r1, .ref r2, iv gp, iv rm, iv mv, .ref r3, .ref r4, .ref r5, .ref r6, iv tk, .ref r7, iv 0])] H := hP
  have hD : va_D A [(h, ob 4 [iv wks, iv wk, .ref r1, .ref r2, iv gp, iv rm, iv mv, .ref r3, .ref r4, .ref r5, .ref r6, iv tk, .ref r7, iv 0])] := hD
  refine lv_iload_n hx hb dX4_asked_13 rfl (lv_at hl 1 rfl) ?_
  subst hQ
  exact r_Mi hx hb hr hlocks (by first | rfl | decide) dX4_asked_14 hS (hP.sub (ws' := [(h, ob 4 [iv wks, iv wk, .ref r1, .ref r2, iv gp, iv rm, iv mv, .ref r3, .ref r4, .ref r5, .ref r6, iv tk, .ref r7, iv 0])]) [0] rfl) (hD.sub (ws' := [(h, ob 4 [iv wks, iv wk, .ref r1, .ref r2, iv gp, iv rm, iv mv, .ref r3, .ref r4, .ref r5, .ref r6, iv tk, .ref r7, iv 0])]) [0] (by decide) rfl) (⟨rfl, rfl⟩) (Nat.le_of_ble_eq_true rfl) (Nat.le_of_ble_eq_true rfl)

abbrev rm_X4_asked2_00 : Room := { frames := 0, cells := 0, slots := 0, locals := 0 }
set_option maxHeartbeats 4000000 in
set_option maxRecDepth 100000 in
theorem mt_X4_asked2_00 (l : Launch) (D : va_G) (cI cS cJ : ClassId) (h : Nat) (r1 : Nat) (r2 : Nat) (r3 : Nat) (r4 : Nat) (r5 : Nat) (r6 : Nat) (r7 : Nat) (wks : Int) (wk : Int) (gp : Int) (rm : Int) (mv : Int) (tk : Int) (th : Int)  : cM l yX4_asked_ wsX4_asked_ rm_X4_asked2_00 [.ref h, iv 0, iv 0] D (tyL cI cS cJ) [(h, ob 4 [iv wks, iv wk, .ref r1, .ref r2, iv gp, iv rm, iv mv, .ref r3, .ref r4, .ref r5, .ref r6, iv tk, .ref r7, iv th])] (fun r_ w_ => r_ = some (iv 0) ∧ w_ = [(h, ob 4 [iv wks, iv wk, .ref r1, .ref r2, iv gp, iv rm, iv mv, .ref r3, .ref r4, .ref r5, .ref r6, iv tk, .ref r7, iv 1])]) 0 0 := by
  refine en_M (cc := cX4_asked_) (maxL := 3) (ret := (some .boolean)) (by decide) rfl (Nat.le_of_ble_eq_true rfl) ?_
  intro p e s m args below meth c ls A hX hE hP hK hD hS hA hl Q hQ
  obtain ⟨hx, hb, hr, hml, hts, hown, hlocks, hnm⟩ := hX
  have hown : s.vm.findClass RX4 = some m.cls := hown
  have hl : lv_has ls 3 [(0, .ref h), (1, iv 0), (2, iv 0)] := hl
  have inX4 : ∀ w ∈ u_ws RX4 TX4 14, w ∈ wsX4_asked_ := by decide +kernel
  have w0 : (Cond.fieldLink RX4 38 RX4 "thrown" "I").before args s = true := hts _ (by decide +kernel)
  refine lv_aload_n hx hb dX4_asked__0 rfl (lv_at hl 0 rfl) ?_
  refine lv_iload_n hx hb dX4_asked__1 rfl (lv_at hl 1 rfl) ?_
  refine i_if_ne (tgt := 9) hx hb ⟨by decide, by decide⟩ dX4_asked__2 (by decide) (fun c_1 => absurd (by decide) c_1) (fun c_1 => ?_)
  refine lv_iconst (v := zI 1) hx hb dX4_asked__5 rfl ?_
  refine lv_goto (tgt := 18) hx hb dX4_asked__6 (by decide) ?_
  refine va_put (D := D) (ci := 4) (v := iv 1) (ty := .int) (C := RX4) (T := TX4) (N := 14) hx hb hts inX4 tyX4 tyX4_ok nmX4 hown hK hP hD hS 0 rfl rfl 13 (by decide) w0 (fun _ h9 => h9) rfl (by decide +kernel) rfl rfl (Nat.le_of_ble_eq_true rfl) dX4_asked__18 (fun H locs hP hD hS => ?_)
  have hP : va_P D vwCl [(h, ob 4 [iv wks, iv wk, .ref r1, .ref r2, iv gp, iv rm, iv mv, .ref r3, .ref r4, .ref r5, .ref r6, iv tk, .ref r7, iv 1])] H := hP
  have hD : va_D A [(h, ob 4 [iv wks, iv wk, .ref r1, .ref r2, iv gp, iv rm, iv mv, .ref r3, .ref r4, .ref r5, .ref r6, iv tk, .ref r7, iv 1])] := hD
  refine lv_aload_n hx hb dX4_asked__21 rfl (lv_at hl 0 rfl) ?_
  refine va_get (D := D) (ci := 4) (v := iv 1) (C := RX4) (T := TX4) (N := 14) hx hb hts inX4 hown hK hP 0 rfl rfl 13 (by decide) w0 (fun _ h9 => h9) rfl dX4_asked__22 ?_
  refine i_if_ne (tgt := 32) hx hb ⟨by decide, by decide⟩ dX4_asked__25 (by decide) (fun c_2 => ?_) (fun c_2 => absurd c_2 (by decide))
  refine lv_iconst (v := zI 0) hx hb dX4_asked__32 rfl ?_
  subst hQ
  exact r_Mi hx hb hr hlocks (by first | rfl | decide) dX4_asked__33 hS (hP.sub (ws' := [(h, ob 4 [iv wks, iv wk, .ref r1, .ref r2, iv gp, iv rm, iv mv, .ref r3, .ref r4, .ref r5, .ref r6, iv tk, .ref r7, iv 1])]) [0] rfl) (hD.sub (ws' := [(h, ob 4 [iv wks, iv wk, .ref r1, .ref r2, iv gp, iv rm, iv mv, .ref r3, .ref r4, .ref r5, .ref r6, iv tk, .ref r7, iv 1])]) [0] (by decide) rfl) (⟨rfl, rfl⟩) (Nat.le_of_ble_eq_true rfl) (Nat.le_of_ble_eq_true rfl)

abbrev rm_X4_asked2_01 : Room := { frames := 0, cells := 0, slots := 0, locals := 0 }
set_option maxHeartbeats 4000000 in
set_option maxRecDepth 100000 in
theorem mt_X4_asked2_01 (l : Launch) (D : va_G) (cI cS cJ : ClassId) (h : Nat) (r1 : Nat) (r2 : Nat) (r3 : Nat) (r4 : Nat) (r5 : Nat) (r6 : Nat) (r7 : Nat) (wks : Int) (wk : Int) (gp : Int) (rm : Int) (mv : Int) (tk : Int) (th : Int)  : cM l yX4_asked_ wsX4_asked_ rm_X4_asked2_01 [.ref h, iv 0, iv 1] D (tyL cI cS cJ) [(h, ob 4 [iv wks, iv wk, .ref r1, .ref r2, iv gp, iv rm, iv mv, .ref r3, .ref r4, .ref r5, .ref r6, iv tk, .ref r7, iv th])] (fun r_ w_ => r_ = some (iv 0) ∧ w_ = [(h, ob 4 [iv wks, iv wk, .ref r1, .ref r2, iv gp, iv rm, iv mv, .ref r3, .ref r4, .ref r5, .ref r6, iv tk, .ref r7, iv 1])]) 0 0 := by
  refine en_M (cc := cX4_asked_) (maxL := 3) (ret := (some .boolean)) (by decide) rfl (Nat.le_of_ble_eq_true rfl) ?_
  intro p e s m args below meth c ls A hX hE hP hK hD hS hA hl Q hQ
  obtain ⟨hx, hb, hr, hml, hts, hown, hlocks, hnm⟩ := hX
  have hown : s.vm.findClass RX4 = some m.cls := hown
  have hl : lv_has ls 3 [(0, .ref h), (1, iv 0), (2, iv 1)] := hl
  have inX4 : ∀ w ∈ u_ws RX4 TX4 14, w ∈ wsX4_asked_ := by decide +kernel
  have w0 : (Cond.fieldLink RX4 38 RX4 "thrown" "I").before args s = true := hts _ (by decide +kernel)
  refine lv_aload_n hx hb dX4_asked__0 rfl (lv_at hl 0 rfl) ?_
  refine lv_iload_n hx hb dX4_asked__1 rfl (lv_at hl 1 rfl) ?_
  refine i_if_ne (tgt := 9) hx hb ⟨by decide, by decide⟩ dX4_asked__2 (by decide) (fun c_1 => absurd (by decide) c_1) (fun c_1 => ?_)
  refine lv_iconst (v := zI 1) hx hb dX4_asked__5 rfl ?_
  refine lv_goto (tgt := 18) hx hb dX4_asked__6 (by decide) ?_
  refine va_put (D := D) (ci := 4) (v := iv 1) (ty := .int) (C := RX4) (T := TX4) (N := 14) hx hb hts inX4 tyX4 tyX4_ok nmX4 hown hK hP hD hS 0 rfl rfl 13 (by decide) w0 (fun _ h9 => h9) rfl (by decide +kernel) rfl rfl (Nat.le_of_ble_eq_true rfl) dX4_asked__18 (fun H locs hP hD hS => ?_)
  have hP : va_P D vwCl [(h, ob 4 [iv wks, iv wk, .ref r1, .ref r2, iv gp, iv rm, iv mv, .ref r3, .ref r4, .ref r5, .ref r6, iv tk, .ref r7, iv 1])] H := hP
  have hD : va_D A [(h, ob 4 [iv wks, iv wk, .ref r1, .ref r2, iv gp, iv rm, iv mv, .ref r3, .ref r4, .ref r5, .ref r6, iv tk, .ref r7, iv 1])] := hD
  refine lv_aload_n hx hb dX4_asked__21 rfl (lv_at hl 0 rfl) ?_
  refine va_get (D := D) (ci := 4) (v := iv 1) (C := RX4) (T := TX4) (N := 14) hx hb hts inX4 hown hK hP 0 rfl rfl 13 (by decide) w0 (fun _ h9 => h9) rfl dX4_asked__22 ?_
  refine i_if_ne (tgt := 32) hx hb ⟨by decide, by decide⟩ dX4_asked__25 (by decide) (fun c_2 => ?_) (fun c_2 => absurd c_2 (by decide))
  refine lv_iconst (v := zI 0) hx hb dX4_asked__32 rfl ?_
  subst hQ
  exact r_Mi hx hb hr hlocks (by first | rfl | decide) dX4_asked__33 hS (hP.sub (ws' := [(h, ob 4 [iv wks, iv wk, .ref r1, .ref r2, iv gp, iv rm, iv mv, .ref r3, .ref r4, .ref r5, .ref r6, iv tk, .ref r7, iv 1])]) [0] rfl) (hD.sub (ws' := [(h, ob 4 [iv wks, iv wk, .ref r1, .ref r2, iv gp, iv rm, iv mv, .ref r3, .ref r4, .ref r5, .ref r6, iv tk, .ref r7, iv 1])]) [0] (by decide) rfl) (⟨rfl, rfl⟩) (Nat.le_of_ble_eq_true rfl) (Nat.le_of_ble_eq_true rfl)

abbrev rm_X4_asked2_10 : Room := { frames := 0, cells := 0, slots := 0, locals := 0 }
set_option maxHeartbeats 4000000 in
set_option maxRecDepth 100000 in
theorem mt_X4_asked2_10 (l : Launch) (D : va_G) (cI cS cJ : ClassId) (h : Nat) (r1 : Nat) (r2 : Nat) (r3 : Nat) (r4 : Nat) (r5 : Nat) (r6 : Nat) (r7 : Nat) (wks : Int) (wk : Int) (gp : Int) (rm : Int) (mv : Int) (tk : Int) (th : Int)  : cM l yX4_asked_ wsX4_asked_ rm_X4_asked2_10 [.ref h, iv 1, iv 0] D (tyL cI cS cJ) [(h, ob 4 [iv wks, iv wk, .ref r1, .ref r2, iv gp, iv rm, iv mv, .ref r3, .ref r4, .ref r5, .ref r6, iv tk, .ref r7, iv th])] (fun r_ w_ => r_ = some (iv 0) ∧ w_ = [(h, ob 4 [iv wks, iv wk, .ref r1, .ref r2, iv gp, iv rm, iv mv, .ref r3, .ref r4, .ref r5, .ref r6, iv tk, .ref r7, iv 2])]) 0 0 := by
  refine en_M (cc := cX4_asked_) (maxL := 3) (ret := (some .boolean)) (by decide) rfl (Nat.le_of_ble_eq_true rfl) ?_
  intro p e s m args below meth c ls A hX hE hP hK hD hS hA hl Q hQ
  obtain ⟨hx, hb, hr, hml, hts, hown, hlocks, hnm⟩ := hX
  have hown : s.vm.findClass RX4 = some m.cls := hown
  have hl : lv_has ls 3 [(0, .ref h), (1, iv 1), (2, iv 0)] := hl
  have inX4 : ∀ w ∈ u_ws RX4 TX4 14, w ∈ wsX4_asked_ := by decide +kernel
  have w0 : (Cond.fieldLink RX4 38 RX4 "thrown" "I").before args s = true := hts _ (by decide +kernel)
  refine lv_aload_n hx hb dX4_asked__0 rfl (lv_at hl 0 rfl) ?_
  refine lv_iload_n hx hb dX4_asked__1 rfl (lv_at hl 1 rfl) ?_
  refine i_if_ne (tgt := 9) hx hb ⟨by decide, by decide⟩ dX4_asked__2 (by decide) (fun c_1 => ?_) (fun c_1 => absurd c_1 (by decide))
  refine lv_iload_n hx hb dX4_asked__9 rfl (lv_at hl 2 rfl) ?_
  refine i_if_eq (tgt := 17) hx hb ⟨by decide, by decide⟩ dX4_asked__10 (by decide) (fun c_2 => ?_) (fun c_2 => absurd (by decide) c_2)
  refine lv_iconst (v := zI 2) hx hb dX4_asked__17 rfl ?_
  refine va_put (D := D) (ci := 4) (v := iv 2) (ty := .int) (C := RX4) (T := TX4) (N := 14) hx hb hts inX4 tyX4 tyX4_ok nmX4 hown hK hP hD hS 0 rfl rfl 13 (by decide) w0 (fun _ h9 => h9) rfl (by decide +kernel) rfl rfl (Nat.le_of_ble_eq_true rfl) dX4_asked__18 (fun H locs hP hD hS => ?_)
  have hP : va_P D vwCl [(h, ob 4 [iv wks, iv wk, .ref r1, .ref r2, iv gp, iv rm, iv mv, .ref r3, .ref r4, .ref r5, .ref r6, iv tk, .ref r7, iv 2])] H := hP
  have hD : va_D A [(h, ob 4 [iv wks, iv wk, .ref r1, .ref r2, iv gp, iv rm, iv mv, .ref r3, .ref r4, .ref r5, .ref r6, iv tk, .ref r7, iv 2])] := hD
  refine lv_aload_n hx hb dX4_asked__21 rfl (lv_at hl 0 rfl) ?_
  refine va_get (D := D) (ci := 4) (v := iv 2) (C := RX4) (T := TX4) (N := 14) hx hb hts inX4 hown hK hP 0 rfl rfl 13 (by decide) w0 (fun _ h9 => h9) rfl dX4_asked__22 ?_
  refine i_if_ne (tgt := 32) hx hb ⟨by decide, by decide⟩ dX4_asked__25 (by decide) (fun c_3 => ?_) (fun c_3 => absurd c_3 (by decide))
  refine lv_iconst (v := zI 0) hx hb dX4_asked__32 rfl ?_
  subst hQ
  exact r_Mi hx hb hr hlocks (by first | rfl | decide) dX4_asked__33 hS (hP.sub (ws' := [(h, ob 4 [iv wks, iv wk, .ref r1, .ref r2, iv gp, iv rm, iv mv, .ref r3, .ref r4, .ref r5, .ref r6, iv tk, .ref r7, iv 2])]) [0] rfl) (hD.sub (ws' := [(h, ob 4 [iv wks, iv wk, .ref r1, .ref r2, iv gp, iv rm, iv mv, .ref r3, .ref r4, .ref r5, .ref r6, iv tk, .ref r7, iv 2])]) [0] (by decide) rfl) (⟨rfl, rfl⟩) (Nat.le_of_ble_eq_true rfl) (Nat.le_of_ble_eq_true rfl)

abbrev rm_X4_asked2_11 : Room := { frames := 0, cells := 0, slots := 0, locals := 0 }
set_option maxHeartbeats 4000000 in
set_option maxRecDepth 100000 in
theorem mt_X4_asked2_11 (l : Launch) (D : va_G) (cI cS cJ : ClassId) (h : Nat) (r1 : Nat) (r2 : Nat) (r3 : Nat) (r4 : Nat) (r5 : Nat) (r6 : Nat) (r7 : Nat) (wks : Int) (wk : Int) (gp : Int) (rm : Int) (mv : Int) (tk : Int) (th : Int)  : cM l yX4_asked_ wsX4_asked_ rm_X4_asked2_11 [.ref h, iv 1, iv 1] D (tyL cI cS cJ) [(h, ob 4 [iv wks, iv wk, .ref r1, .ref r2, iv gp, iv rm, iv mv, .ref r3, .ref r4, .ref r5, .ref r6, iv tk, .ref r7, iv th])] (fun r_ w_ => r_ = some (iv 1) ∧ w_ = [(h, ob 4 [iv wks, iv wk, .ref r1, .ref r2, iv gp, iv rm, iv mv, .ref r3, .ref r4, .ref r5, .ref r6, iv tk, .ref r7, iv 0])]) 0 0 := by
  refine en_M (cc := cX4_asked_) (maxL := 3) (ret := (some .boolean)) (by decide) rfl (Nat.le_of_ble_eq_true rfl) ?_
  intro p e s m args below meth c ls A hX hE hP hK hD hS hA hl Q hQ
  obtain ⟨hx, hb, hr, hml, hts, hown, hlocks, hnm⟩ := hX
  have hown : s.vm.findClass RX4 = some m.cls := hown
  have hl : lv_has ls 3 [(0, .ref h), (1, iv 1), (2, iv 1)] := hl
  have inX4 : ∀ w ∈ u_ws RX4 TX4 14, w ∈ wsX4_asked_ := by decide +kernel
  have w0 : (Cond.fieldLink RX4 38 RX4 "thrown" "I").before args s = true := hts _ (by decide +kernel)
  refine lv_aload_n hx hb dX4_asked__0 rfl (lv_at hl 0 rfl) ?_
  refine lv_iload_n hx hb dX4_asked__1 rfl (lv_at hl 1 rfl) ?_
  refine i_if_ne (tgt := 9) hx hb ⟨by decide, by decide⟩ dX4_asked__2 (by decide) (fun c_1 => ?_) (fun c_1 => absurd c_1 (by decide))
  refine lv_iload_n hx hb dX4_asked__9 rfl (lv_at hl 2 rfl) ?_
  refine i_if_eq (tgt := 17) hx hb ⟨by decide, by decide⟩ dX4_asked__10 (by decide) (fun c_2 => absurd c_2 (by decide)) (fun c_2 => ?_)
  refine lv_iconst (v := zI 0) hx hb dX4_asked__13 rfl ?_
  refine lv_goto (tgt := 18) hx hb dX4_asked__14 (by decide) ?_
  refine va_put (D := D) (ci := 4) (v := iv 0) (ty := .int) (C := RX4) (T := TX4) (N := 14) hx hb hts inX4 tyX4 tyX4_ok nmX4 hown hK hP hD hS 0 rfl rfl 13 (by decide) w0 (fun _ h9 => h9) rfl (by decide +kernel) rfl rfl (Nat.le_of_ble_eq_true rfl) dX4_asked__18 (fun H locs hP hD hS => ?_)
  have hP : va_P D vwCl [(h, ob 4 [iv wks, iv wk, .ref r1, .ref r2, iv gp, iv rm, iv mv, .ref r3, .ref r4, .ref r5, .ref r6, iv tk, .ref r7, iv 0])] H := hP
  have hD : va_D A [(h, ob 4 [iv wks, iv wk, .ref r1, .ref r2, iv gp, iv rm, iv mv, .ref r3, .ref r4, .ref r5, .ref r6, iv tk, .ref r7, iv 0])] := hD
  refine lv_aload_n hx hb dX4_asked__21 rfl (lv_at hl 0 rfl) ?_
  refine va_get (D := D) (ci := 4) (v := iv 0) (C := RX4) (T := TX4) (N := 14) hx hb hts inX4 hown hK hP 0 rfl rfl 13 (by decide) w0 (fun _ h9 => h9) rfl dX4_asked__22 ?_
  refine i_if_ne (tgt := 32) hx hb ⟨by decide, by decide⟩ dX4_asked__25 (by decide) (fun c_3 => absurd (by decide) c_3) (fun c_3 => ?_)
  refine lv_iconst (v := zI 1) hx hb dX4_asked__28 rfl ?_
  refine lv_goto (tgt := 33) hx hb dX4_asked__29 (by decide) ?_
  subst hQ
  exact r_Mi hx hb hr hlocks (by first | rfl | decide) dX4_asked__33 hS (hP.sub (ws' := [(h, ob 4 [iv wks, iv wk, .ref r1, .ref r2, iv gp, iv rm, iv mv, .ref r3, .ref r4, .ref r5, .ref r6, iv tk, .ref r7, iv 0])]) [0] rfl) (hD.sub (ws' := [(h, ob 4 [iv wks, iv wk, .ref r1, .ref r2, iv gp, iv rm, iv mv, .ref r3, .ref r4, .ref r5, .ref r6, iv tk, .ref r7, iv 0])]) [0] (by decide) rfl) (⟨rfl, rfl⟩) (Nat.le_of_ble_eq_true rfl) (Nat.le_of_ble_eq_true rfl)

abbrev rm_X4_told : Room := { frames := 0, cells := 0, slots := 0, locals := 0 }
set_option maxHeartbeats 4000000 in
set_option maxRecDepth 100000 in
theorem mt_X4_told (l : Launch) (D : va_G) (cI cS cJ : ClassId) (h : Nat) (r1 : Nat) (r2 : Nat) (r3 : Nat) (r4 : Nat) (r5 : Nat) (r6 : Nat) (r7 : Nat) (wks : Int) (wk : Int) (gp : Int) (rm : Int) (mv : Int) (tk : Int) (th : Int) (v : Int)  : cM l yX4_told wsX4_told rm_X4_told [.ref h, iv v] D (tyL cI cS cJ) [(h, ob 4 [iv wks, iv wk, .ref r1, .ref r2, iv gp, iv rm, iv mv, .ref r3, .ref r4, .ref r5, .ref r6, iv tk, .ref r7, iv th])] (fun r_ w_ => r_ = some (iv v) ∧ w_ = [(h, ob 4 [iv wks, iv wk, .ref r1, .ref r2, iv gp, iv rm, iv mv, .ref r3, .ref r4, .ref r5, .ref r6, iv tk, .ref r7, iv 0])]) 0 0 := by
  refine en_M (cc := cX4_told) (maxL := 2) (ret := (some .int)) (by decide) rfl (Nat.le_of_ble_eq_true rfl) ?_
  intro p e s m args below meth c ls A hX hE hP hK hD hS hA hl Q hQ
  obtain ⟨hx, hb, hr, hml, hts, hown, hlocks, hnm⟩ := hX
  have hown : s.vm.findClass RX4 = some m.cls := hown
  have hl : lv_has ls 2 [(0, .ref h), (1, iv v)] := hl
  have inX4 : ∀ w ∈ u_ws RX4 TX4 14, w ∈ wsX4_told := by decide +kernel
  have w0 : (Cond.fieldLink RX4 38 RX4 "thrown" "I").before args s = true := hts _ (by decide +kernel)
  refine lv_aload_n hx hb dX4_told_0 rfl (lv_at hl 0 rfl) ?_
  refine lv_iconst (v := zI 0) hx hb dX4_told_1 rfl ?_
  refine va_put (D := D) (ci := 4) (v := iv 0) (ty := .int) (C := RX4) (T := TX4) (N := 14) hx hb hts inX4 tyX4 tyX4_ok nmX4 hown hK hP hD hS 0 rfl rfl 13 (by decide) w0 (fun _ h9 => h9) rfl (by decide +kernel) rfl rfl (Nat.le_of_ble_eq_true rfl) dX4_told_2 (fun H locs hP hD hS => ?_)
  have hP : va_P D vwCl [(h, ob 4 [iv wks, iv wk, .ref r1, .ref r2, iv gp, iv rm, iv mv, .ref r3, .ref r4, .ref r5, .ref r6, iv tk, .ref r7, iv 0])] H := hP
  have hD : va_D A [(h, ob 4 [iv wks, iv wk, .ref r1, .ref r2, iv gp, iv rm, iv mv, .ref r3, .ref r4, .ref r5, .ref r6, iv tk, .ref r7, iv 0])] := hD
  refine lv_iload_n hx hb dX4_told_5 rfl (lv_at hl 1 rfl) ?_
  subst hQ
  exact r_Mi hx hb hr hlocks (by first | rfl | decide) dX4_told_6 hS (hP.sub (ws' := [(h, ob 4 [iv wks, iv wk, .ref r1, .ref r2, iv gp, iv rm, iv mv, .ref r3, .ref r4, .ref r5, .ref r6, iv tk, .ref r7, iv 0])]) [0] rfl) (hD.sub (ws' := [(h, ob 4 [iv wks, iv wk, .ref r1, .ref r2, iv gp, iv rm, iv mv, .ref r3, .ref r4, .ref r5, .ref r6, iv tk, .ref r7, iv 0])]) [0] (by decide) rfl) (⟨rfl, rfl⟩) (Nat.le_of_ble_eq_true rfl) (Nat.le_of_ble_eq_true rfl)

abbrev rm_X4_whole : Room := { frames := 0, cells := 0, slots := 0, locals := 0 }
set_option maxHeartbeats 4000000 in
set_option maxRecDepth 100000 in
theorem mt_X4_whole (l : Launch) (D : va_G) (cI cS cJ : ClassId) (h : Nat) (r1 : Nat) (r2 : Nat) (r3 : Nat) (r4 : Nat) (r5 : Nat) (r6 : Nat) (r7 : Nat) (wks : Int) (wk : Int) (gp : Int) (rm : Int) (mv : Int) (tk : Int) (th : Int) (sk : Int → Int) (i : Int) (hi : 0 ≤ i ∧ i < 3) : cP l yX4_whole wsX4_whole rm_X4_whole [.ref h, iv i] D (tyL cI cS cJ) [(h, ob 4 [iv wks, iv wk, .ref r1, .ref r2, iv gp, iv rm, iv mv, .ref r3, .ref r4, .ref r5, .ref r6, iv tk, .ref r7, iv th]), (r3, ar cI 9 sk)] (zI (whl (fun z : Int => sk (3 * i + z)))) := by
  refine en_P (cc := cX4_whole) (maxL := 2) (ret := (some .int)) (by decide) rfl (Nat.le_of_ble_eq_true rfl) ?_
  intro p e s m args below meth c ls hX hE hP hK hl Q hQ
  obtain ⟨hx, hb, hr, hml, hts, hown, hlocks, hnm⟩ := hX
  have hown : s.vm.findClass RX4 = some m.cls := hown
  have hl : lv_has ls 2 [(0, .ref h), (1, iv i)] := hl
  have inX4 : ∀ w ∈ u_ws RX4 TX4 14, w ∈ wsX4_whole := by decide +kernel
  have w0 : (Cond.fieldLink RX4 23 RX4 "stock" "[I").before args s = true := hts _ (by decide +kernel)
  refine lv_aload_n hx hb dX4_whole_0 rfl (lv_at hl 0 rfl) ?_
  refine va_get (D := D) (ci := 4) (v := .ref r3) (C := RX4) (T := TX4) (N := 14) hx hb hts inX4 hown hK hP 0 rfl rfl 7 (by decide) w0 (fun _ h9 => h9) rfl dX4_whole_1 ?_
  refine lv_iconst (v := zI 3) hx hb dX4_whole_4 rfl ?_
  refine lv_iload_n hx hb dX4_whole_5 rfl (lv_at hl 1 rfl) ?_
  refine i_imul hx hb dX4_whole_6 ?_
  refine i_iald hx hb hK hP 1 0 rfl rfl (by omega) (by omega) (by decide) dX4_whole_7 ?_
  refine lv_aload_n hx hb dX4_whole_8 rfl (lv_at hl 0 rfl) ?_
  refine va_get (D := D) (ci := 4) (v := .ref r3) (C := RX4) (T := TX4) (N := 14) hx hb hts inX4 hown hK hP 0 rfl rfl 7 (by decide) w0 (fun _ h9 => h9) rfl dX4_whole_9 ?_
  refine lv_iconst (v := zI 3) hx hb dX4_whole_12 rfl ?_
  refine lv_iload_n hx hb dX4_whole_13 rfl (lv_at hl 1 rfl) ?_
  refine i_imul hx hb dX4_whole_14 ?_
  refine lv_iconst (v := zI 1) hx hb dX4_whole_15 rfl ?_
  refine i_iadd hx hb dX4_whole_16 ?_
  refine i_iald hx hb hK hP 1 0 rfl rfl (by omega) (by omega) (by decide) dX4_whole_17 ?_
  refine i_iadd hx hb dX4_whole_18 ?_
  refine lv_aload_n hx hb dX4_whole_19 rfl (lv_at hl 0 rfl) ?_
  refine va_get (D := D) (ci := 4) (v := .ref r3) (C := RX4) (T := TX4) (N := 14) hx hb hts inX4 hown hK hP 0 rfl rfl 7 (by decide) w0 (fun _ h9 => h9) rfl dX4_whole_20 ?_
  refine lv_iconst (v := zI 3) hx hb dX4_whole_23 rfl ?_
  refine lv_iload_n hx hb dX4_whole_24 rfl (lv_at hl 1 rfl) ?_
  refine i_imul hx hb dX4_whole_25 ?_
  refine lv_iconst (v := zI 2) hx hb dX4_whole_26 rfl ?_
  refine i_iadd hx hb dX4_whole_27 ?_
  refine i_iald hx hb hK hP 1 0 rfl rfl (by omega) (by omega) (by decide) dX4_whole_28 ?_
  refine i_iadd hx hb dX4_whole_29 ?_
  subst hQ
  exact r_P hx hb hr hlocks (by rfl) dX4_whole_30 (by congr 1; unfold whl; simp only [Int.add_zero])

abbrev rm_X4_waits : Room := { frames := 0, cells := 0, slots := 0, locals := 0 }
set_option maxHeartbeats 4000000 in
set_option maxRecDepth 100000 in
theorem mt_X4_waits (l : Launch) (D : va_G) (cI cS cJ : ClassId) (h : Nat) (r1 : Nat) (r2 : Nat) (r3 : Nat) (r4 : Nat) (r5 : Nat) (r6 : Nat) (r7 : Nat) (wks : Int) (wk : Int) (gp : Int) (rm : Int) (mv : Int) (tk : Int) (th : Int) (la : Int → Int) (i : Int) (hi : 0 ≤ i ∧ i < 3) (hm : -1 ≤ la (i) ∧ la (i) ≤ 100) (hg : 0 ≤ gp ∧ gp ≤ 100) (hwk : 0 ≤ wk ∧ wk ≤ 100) : cP l yX4_waits wsX4_waits rm_X4_waits [.ref h, iv i] D (tyL cI cS cJ) [(h, ob 4 [iv wks, iv wk, .ref r1, .ref r2, iv gp, iv rm, iv mv, .ref r3, .ref r4, .ref r5, .ref r6, iv tk, .ref r7, iv th]), (r5, ar cI 3 la)] (zI (wtv (la (i)) gp wk)) := by
  refine en_P (cc := cX4_waits) (maxL := 3) (ret := (some .int)) (by decide) rfl (Nat.le_of_ble_eq_true rfl) ?_
  intro p e s m args below meth c ls hX hE hP hK hl Q hQ
  obtain ⟨hx, hb, hr, hml, hts, hown, hlocks, hnm⟩ := hX
  have hown : s.vm.findClass RX4 = some m.cls := hown
  have hl : lv_has ls 3 [(0, .ref h), (1, iv i)] := hl
  have inX4 : ∀ w ∈ u_ws RX4 TX4 14, w ∈ wsX4_waits := by decide +kernel
  have w0 : (Cond.fieldLink RX4 29 RX4 "last" "[I").before args s = true := hts _ (by decide +kernel)
  have w1 : (Cond.fieldLink RX4 20 RX4 "gap" "I").before args s = true := hts _ (by decide +kernel)
  have w2 : (Cond.fieldLink RX4 49 RX4 "week" "I").before args s = true := hts _ (by decide +kernel)
  refine lv_aload_n hx hb dX4_waits_0 rfl (lv_at hl 0 rfl) ?_
  refine va_get (D := D) (ci := 4) (v := .ref r5) (C := RX4) (T := TX4) (N := 14) hx hb hts inX4 hown hK hP 0 rfl rfl 9 (by decide) w0 (fun _ h9 => h9) rfl dX4_waits_1 ?_
  refine lv_iload_n hx hb dX4_waits_4 rfl (lv_at hl 1 rfl) ?_
  refine i_iald hx hb hK hP 1 0 rfl rfl (by omega) (by omega) (by decide) dX4_waits_5 ?_
  refine lv_iconst (v := zI (-1)) hx hb dX4_waits_6 rfl ?_
  refine i_icmp_ne (tgt := 14) hx hb ⟨by omega, by omega⟩ ⟨by decide, by decide⟩ dX4_waits_7 (by decide) (fun c_1 => ?_) (fun c_1 => ?_)
  · skip
    refine lv_aload_n hx hb dX4_waits_14 rfl (lv_at hl 0 rfl) ?_
    refine va_get (D := D) (ci := 4) (v := .ref r5) (C := RX4) (T := TX4) (N := 14) hx hb hts inX4 hown hK hP 0 rfl rfl 9 (by decide) w0 (fun _ h9 => h9) rfl dX4_waits_15 ?_
    refine lv_iload_n hx hb dX4_waits_18 rfl (lv_at hl 1 rfl) ?_
    refine i_iald hx hb hK hP 1 0 rfl rfl (by omega) (by omega) (by decide) dX4_waits_19 ?_
    refine lv_aload_n hx hb dX4_waits_20 rfl (lv_at hl 0 rfl) ?_
    refine va_get (D := D) (ci := 4) (v := iv gp) (C := RX4) (T := TX4) (N := 14) hx hb hts inX4 hown hK hP 0 rfl rfl 4 (by decide) w1 (fun _ h9 => h9) rfl dX4_waits_21 ?_
    refine i_iadd hx hb dX4_waits_24 ?_
    refine lv_aload_n hx hb dX4_waits_25 rfl (lv_at hl 0 rfl) ?_
    refine va_get (D := D) (ci := 4) (v := iv wk) (C := RX4) (T := TX4) (N := 14) hx hb hts inX4 hown hK hP 0 rfl rfl 1 (by decide) w2 (fun _ h9 => h9) rfl dX4_waits_26 ?_
    refine i_isub hx hb dX4_waits_29 ?_
    refine lv_istore_n (lv' := [(2, iv (((la i) + gp) - wk)), (0, .ref h), (1, iv i)]) hx hb dX4_waits_30 rfl hl (by decide) rfl (fun ls hl => ?_)
    refine lv_iload_n hx hb dX4_waits_31 rfl (lv_at hl 0 rfl) ?_
    refine i_if_le (tgt := 39) hx hb ⟨by omega, by omega⟩ dX4_waits_32 (by decide) (fun c_2 => ?_) (fun c_2 => ?_)
    · skip
      refine lv_iconst (v := zI 0) hx hb dX4_waits_39 rfl ?_
      subst hQ
      exact r_P hx hb hr hlocks (by rfl) dX4_waits_40 (by congr 1; unfold wtv; first | (rw [if_pos (by assumption)]; done) | (rw [if_neg (by assumption)]; omega))
    · skip
      refine lv_iload_n hx hb dX4_waits_35 rfl (lv_at hl 0 rfl) ?_
      refine lv_goto (tgt := 40) hx hb dX4_waits_36 (by decide) ?_
      subst hQ
      exact r_P hx hb hr hlocks (by rfl) dX4_waits_40 (by congr 1; unfold wtv; first | (rw [if_pos (by assumption)]; done) | (rw [if_neg (by assumption)]; omega))
  · skip
    refine lv_iconst (v := zI 0) hx hb dX4_waits_10 rfl ?_
    refine lv_goto (tgt := 30) hx hb dX4_waits_11 (by decide) ?_
    refine lv_istore_n (lv' := [(2, iv 0), (0, .ref h), (1, iv i)]) hx hb dX4_waits_30 rfl hl (by decide) rfl (fun ls hl => ?_)
    refine lv_iload_n hx hb dX4_waits_31 rfl (lv_at hl 0 rfl) ?_
    refine i_if_le (tgt := 39) hx hb ⟨by decide, by decide⟩ dX4_waits_32 (by decide) (fun c_3 => ?_) (fun c_3 => absurd (by decide) c_3)
    refine lv_iconst (v := zI 0) hx hb dX4_waits_39 rfl ?_
    subst hQ
    exact r_P hx hb hr hlocks (by rfl) dX4_waits_40 (by congr 1; unfold wtv; first | (rw [if_pos (by assumption)]; done) | (rw [if_neg (by assumption)]; omega))

abbrev rm_X4_sells : Room := { frames := 1, cells := 0, slots := 0, locals := 21 }
set_option maxHeartbeats 4000000 in
set_option maxRecDepth 100000 in
theorem mt_X4_sells (l : Launch) (D : va_G) (cI cS cJ : ClassId) (h : Nat) (r1 : Nat) (r2 : Nat) (r3 : Nat) (r4 : Nat) (r5 : Nat) (r6 : Nat) (r7 : Nat) (wks : Int) (wk : Int) (gp : Int) (rm : Int) (mv : Int) (tk : Int) (th : Int) (sk : Int → Int) (dm : Int → Int) (i : Int) (j : Int) (hi : 0 ≤ i ∧ i < 3) (hj : 0 ≤ j ∧ j < 5) (hdj : 0 ≤ dm (5 * i + j) ∧ dm (5 * i + j) ≤ 30) (hk : Nn3 (fun z : Int => sk (3 * i + z))) (hw : whl (fun z : Int => sk (3 * i + z)) ≤ 60) : cP l yX4_sells wsX4_sells rm_X4_sells [.ref h, iv i, iv j] D (tyL cI cS cJ) [(h, ob 4 [iv wks, iv wk, .ref r1, .ref r2, iv gp, iv rm, iv mv, .ref r3, .ref r4, .ref r5, .ref r6, iv tk, .ref r7, iv th]), (r2, ar cI 15 dm), (r3, ar cI 9 sk)] (zI (slv (dm (5 * i + j)) (fun z : Int => sk (3 * i + z)))) := by
  refine en_P (cc := cX4_sells) (maxL := 5) (ret := (some .int)) (by decide) rfl (Nat.le_of_ble_eq_true rfl) ?_
  intro p e s m args below meth c ls hX hE hP hK hl Q hQ
  obtain ⟨hx, hb, hr, hml, hts, hown, hlocks, hnm⟩ := hX
  have hown : s.vm.findClass RX4 = some m.cls := hown
  have hl : lv_has ls 5 [(0, .ref h), (1, iv i), (2, iv j)] := hl
  have inX4 : ∀ w ∈ u_ws RX4 TX4 14, w ∈ wsX4_sells := by decide +kernel
  have w0 : (Cond.fieldLink RX4 23 RX4 "stock" "[I").before args s = true := hts _ (by decide +kernel)
  have w1 : (Cond.fieldLink RX4 17 RX4 "demand" "[I").before args s = true := hts _ (by decide +kernel)
  obtain ⟨hk0, hk1, hk2⟩ := id hk
  have hk0 : 0 ≤ sk (3 * i + 0) := hk0
  have hk1 : 0 ≤ sk (3 * i + 1) := hk1
  have hk2 : 0 ≤ sk (3 * i + 2) := hk2
  have hw3 : sk (3 * i + 0) + sk (3 * i + 1) + sk (3 * i + 2) ≤ 60 := hw
  have hz3 := szs_in (fun z : Int => sk (3 * i + z))
  have hsz : szs (fun z : Int => sk (3 * i + z)) = (if 0 < sk (3 * i + 0) then 1 else 0) + (if 0 < sk (3 * i + 1) then 1 else 0) + (if 0 < sk (3 * i + 2) then 1 else 0) := rfl
  have hm0 : 0 ≤ dm (5 * i + j) * szs (fun z : Int => sk (3 * i + z)) := Int.mul_nonneg hdj.1 hz3.1
  have hm1 : dm (5 * i + j) * szs (fun z : Int => sk (3 * i + z)) ≤ 30 * 3 := Int.mul_le_mul hdj.2 hz3.2 hz3.1 (by decide)
  have hw0 : 0 ≤ whl (fun z : Int => sk (3 * i + z)) := by unfold whl; omega
  refine lv_iconst (v := zI 0) hx hb dX4_sells_0 rfl ?_
  refine lv_istore_n (lv' := [(3, iv 0), (0, .ref h), (1, iv i), (2, iv j)]) hx hb dX4_sells_1 rfl hl (by decide) rfl (fun ls hl => ?_)
  refine lv_iconst (v := zI 0) hx hb dX4_sells_2 rfl ?_
  refine lv_istore (lv' := [(4, iv 0), (3, iv 0), (0, .ref h), (1, iv i), (2, iv j)]) hx hb dX4_sells_3 hl (by decide) rfl (fun ls hl => ?_)
  refine lv_iload hx hb dX4_sells_5 (lv_at hl 0 rfl) ?_
  refine lv_iconst (v := zI 3) hx hb dX4_sells_7 rfl ?_
  refine i_icmp_ge (tgt := 39) hx hb ⟨by decide, by decide⟩ ⟨by decide, by decide⟩ dX4_sells_8 (by decide) (fun c_1 => absurd c_1 (by decide)) (fun c_1 => ?_)
  refine lv_iload_n hx hb dX4_sells_11 rfl (lv_at hl 1 rfl) ?_
  refine lv_aload_n hx hb dX4_sells_12 rfl (lv_at hl 2 rfl) ?_
  refine va_get (D := D) (ci := 4) (v := .ref r3) (C := RX4) (T := TX4) (N := 14) hx hb hts inX4 hown hK hP 0 rfl rfl 7 (by decide) w0 (fun _ h9 => h9) rfl dX4_sells_13 ?_
  refine lv_iconst (v := zI 3) hx hb dX4_sells_16 rfl ?_
  refine lv_iload_n hx hb dX4_sells_17 rfl (lv_at hl 3 rfl) ?_
  refine i_imul hx hb dX4_sells_18 ?_
  refine lv_iload hx hb dX4_sells_19 (lv_at hl 0 rfl) ?_
  refine i_iadd hx hb dX4_sells_21 ?_
  refine i_iald hx hb hK hP 2 0 rfl rfl (by omega) (by omega) (by decide) dX4_sells_22 ?_
  have J_31 : ∀ (z_2 : Int) (hz_3 : z_2 = if 0 < sk ((3 * i) + 0) then 1 else 0) (ls : Array Slot) (hl : lv_has ls 5 [(4, iv 0), (3, iv 0), (0, .ref h), (1, iv i), (2, iv j)]), W p l e rm_X4_sells s m args below meth c s.heap [] 0 0 Q (F0 m 31 ls [iv z_2, iv 0]) := by
    intro z_2 hz_3 ls hl
    refine i_iadd hx hb dX4_sells_31 ?_
    refine lv_istore_n (lv' := [(3, iv (0 + z_2)), (4, iv 0), (0, .ref h), (1, iv i), (2, iv j)]) hx hb dX4_sells_32 rfl hl (by decide) rfl (fun ls hl => ?_)
    refine i_iinc (n := 1) (lv' := [(4, iv 1), (3, iv (0 + z_2)), (0, .ref h), (1, iv i), (2, iv j)]) hx hb dX4_sells_33 hl (k := 1) rfl (by decide) rfl (fun ls hl => ?_)
    refine lv_goto (tgt := 5) hx hb dX4_sells_36 (by decide) ?_
    refine lv_iload hx hb dX4_sells_5 (lv_at hl 0 rfl) ?_
    refine lv_iconst (v := zI 3) hx hb dX4_sells_7 rfl ?_
    refine i_icmp_ge (tgt := 39) hx hb ⟨by decide, by decide⟩ ⟨by decide, by decide⟩ dX4_sells_8 (by decide) (fun c_4 => absurd c_4 (by decide)) (fun c_4 => ?_)
    refine lv_iload_n hx hb dX4_sells_11 rfl (lv_at hl 1 rfl) ?_
    refine lv_aload_n hx hb dX4_sells_12 rfl (lv_at hl 2 rfl) ?_
    refine va_get (D := D) (ci := 4) (v := .ref r3) (C := RX4) (T := TX4) (N := 14) hx hb hts inX4 hown hK hP 0 rfl rfl 7 (by decide) w0 (fun _ h9 => h9) rfl dX4_sells_13 ?_
    refine lv_iconst (v := zI 3) hx hb dX4_sells_16 rfl ?_
    refine lv_iload_n hx hb dX4_sells_17 rfl (lv_at hl 3 rfl) ?_
    refine i_imul hx hb dX4_sells_18 ?_
    refine lv_iload hx hb dX4_sells_19 (lv_at hl 0 rfl) ?_
    refine i_iadd hx hb dX4_sells_21 ?_
    refine i_iald hx hb hK hP 2 0 rfl rfl (by omega) (by omega) (by decide) dX4_sells_22 ?_
    have J_31 : ∀ (z_5 : Int) (hz_6 : z_5 = if 0 < sk ((3 * i) + 1) then 1 else 0) (ls : Array Slot) (hl : lv_has ls 5 [(4, iv 1), (3, iv (0 + z_2)), (0, .ref h), (1, iv i), (2, iv j)]), W p l e rm_X4_sells s m args below meth c s.heap [] 0 0 Q (F0 m 31 ls [iv z_5, iv (0 + z_2)]) := by
      intro z_5 hz_6 ls hl
      refine i_iadd hx hb dX4_sells_31 ?_
      refine lv_istore_n (lv' := [(3, iv ((0 + z_2) + z_5)), (4, iv 1), (0, .ref h), (1, iv i), (2, iv j)]) hx hb dX4_sells_32 rfl hl (by decide) rfl (fun ls hl => ?_)
      refine i_iinc (n := 1) (lv' := [(4, iv 2), (3, iv ((0 + z_2) + z_5)), (0, .ref h), (1, iv i), (2, iv j)]) hx hb dX4_sells_33 hl (k := 1) rfl (by decide) rfl (fun ls hl => ?_)
      refine lv_goto (tgt := 5) hx hb dX4_sells_36 (by decide) ?_
      refine lv_iload hx hb dX4_sells_5 (lv_at hl 0 rfl) ?_
      refine lv_iconst (v := zI 3) hx hb dX4_sells_7 rfl ?_
      refine i_icmp_ge (tgt := 39) hx hb ⟨by decide, by decide⟩ ⟨by decide, by decide⟩ dX4_sells_8 (by decide) (fun c_7 => absurd c_7 (by decide)) (fun c_7 => ?_)
      refine lv_iload_n hx hb dX4_sells_11 rfl (lv_at hl 1 rfl) ?_
      refine lv_aload_n hx hb dX4_sells_12 rfl (lv_at hl 2 rfl) ?_
      refine va_get (D := D) (ci := 4) (v := .ref r3) (C := RX4) (T := TX4) (N := 14) hx hb hts inX4 hown hK hP 0 rfl rfl 7 (by decide) w0 (fun _ h9 => h9) rfl dX4_sells_13 ?_
      refine lv_iconst (v := zI 3) hx hb dX4_sells_16 rfl ?_
      refine lv_iload_n hx hb dX4_sells_17 rfl (lv_at hl 3 rfl) ?_
      refine i_imul hx hb dX4_sells_18 ?_
      refine lv_iload hx hb dX4_sells_19 (lv_at hl 0 rfl) ?_
      refine i_iadd hx hb dX4_sells_21 ?_
      refine i_iald hx hb hK hP 2 0 rfl rfl (by omega) (by omega) (by decide) dX4_sells_22 ?_
      have J_31 : ∀ (z_8 : Int) (hz_9 : z_8 = if 0 < sk ((3 * i) + 2) then 1 else 0) (ls : Array Slot) (hl : lv_has ls 5 [(4, iv 2), (3, iv ((0 + z_2) + z_5)), (0, .ref h), (1, iv i), (2, iv j)]), W p l e rm_X4_sells s m args below meth c s.heap [] 0 0 Q (F0 m 31 ls [iv z_8, iv ((0 + z_2) + z_5)]) := by
        intro z_8 hz_9 ls hl
        refine i_iadd hx hb dX4_sells_31 ?_
        refine lv_istore_n (lv' := [(3, iv (((0 + z_2) + z_5) + z_8)), (4, iv 2), (0, .ref h), (1, iv i), (2, iv j)]) hx hb dX4_sells_32 rfl hl (by decide) rfl (fun ls hl => ?_)
        refine i_iinc (n := 1) (lv' := [(4, iv 3), (3, iv (((0 + z_2) + z_5) + z_8)), (0, .ref h), (1, iv i), (2, iv j)]) hx hb dX4_sells_33 hl (k := 1) rfl (by decide) rfl (fun ls hl => ?_)
        refine lv_goto (tgt := 5) hx hb dX4_sells_36 (by decide) ?_
        refine lv_iload hx hb dX4_sells_5 (lv_at hl 0 rfl) ?_
        refine lv_iconst (v := zI 3) hx hb dX4_sells_7 rfl ?_
        refine i_icmp_ge (tgt := 39) hx hb ⟨by decide, by decide⟩ ⟨by decide, by decide⟩ dX4_sells_8 (by decide) (fun c_10 => ?_) (fun c_10 => absurd (by decide) c_10)
        refine lv_aload_n hx hb dX4_sells_39 rfl (lv_at hl 2 rfl) ?_
        refine va_get (D := D) (ci := 4) (v := .ref r2) (C := RX4) (T := TX4) (N := 14) hx hb hts inX4 hown hK hP 0 rfl rfl 3 (by decide) w1 (fun _ h9 => h9) rfl dX4_sells_40 ?_
        refine lv_iconst (v := zI 5) hx hb dX4_sells_43 rfl ?_
        refine lv_iload_n hx hb dX4_sells_44 rfl (lv_at hl 3 rfl) ?_
        refine i_imul hx hb dX4_sells_45 ?_
        refine lv_iload_n hx hb dX4_sells_46 rfl (lv_at hl 4 rfl) ?_
        refine i_iadd hx hb dX4_sells_47 ?_
        refine i_iald hx hb hK hP 1 0 rfl rfl (by omega) (by omega) (by decide) dX4_sells_48 ?_
        refine lv_iload_n hx hb dX4_sells_49 rfl (lv_at hl 1 rfl) ?_
        refine i_imul hx hb dX4_sells_50 ?_
        refine i_name (fun mm hmm => ?_)
        have hmz : mm = dm (5 * i + j) * szs (fun z : Int => sk (3 * i + z)) := by rw [hmm, hsz]; congr 1; omega
        have hmz2 : mm / 3 = dm (5 * i + j) * szs (fun z : Int => sk (3 * i + z)) / 3 := by rw [hmz]
        refine lv_iconst (v := zI 3) hx hb dX4_sells_51 rfl ?_
        refine i_idiv hx hb (by omega) (by omega) (by decide) (by decide) dX4_sells_52 ?_
        refine lv_istore (lv' := [(4, iv (mm / 3)), (3, iv (((0 + z_2) + z_5) + z_8)), (0, .ref h), (1, iv i), (2, iv j)]) hx hb dX4_sells_53 hl (by decide) rfl (fun ls hl => ?_)
        refine lv_iload hx hb dX4_sells_55 (lv_at hl 0 rfl) ?_
        refine lv_aload_n hx hb dX4_sells_57 rfl (lv_at hl 2 rfl) ?_
        refine lv_iload_n hx hb dX4_sells_58 rfl (lv_at hl 3 rfl) ?_
        refine ms_P (va_runV (As := [iv i]) (rest := [iv (mm / 3)]) ⟨hx, hb, hml, hown, hts⟩ (mt_X4_whole l D cI cS cJ h r1 r2 r3 r4 r5 r6 r7 wks wk gp rm mv tk th sk i (by omega)) (cwV 1 hts gX4_sells_X4_whole rfl rfl rfl (by decide +kernel) ⟨Nat.le_of_ble_eq_true rfl, Nat.le_of_ble_eq_true rfl⟩) (pc_V (ci := 4) (q0 := 0) hK (hP.sub (ws' := [(h, ob 4 [iv wks, iv wk, .ref r1, .ref r2, iv gp, iv rm, iv mv, .ref r3, .ref r4, .ref r5, .ref r6, iv tk, .ref r7, iv th]), (r3, ar cI 9 sk)]) [0, 2] rfl) rfl rfl (pcP_S hE hK (hP.sub (ws' := [(h, ob 4 [iv wks, iv wk, .ref r1, .ref r2, iv gp, iv rm, iv mv, .ref r3, .ref r4, .ref r5, .ref r6, iv tk, .ref r7, iv th]), (r3, ar cI 9 sk)]) [0, 2] rfl))) rfl rfl hl.1 rfl (lv_room (Nat.le_of_ble_eq_true rfl)) dX4_sells_59 ⟨Nat.le_of_ble_eq_true rfl, Nat.le_of_ble_eq_true rfl⟩) ?_
        refine i_icmp_ge (tgt := 70) hx hb ⟨by omega, by omega⟩ ⟨by omega, by omega⟩ dX4_sells_62 (by decide) (fun c_11 => ?_) (fun c_11 => ?_)
        · skip
          refine lv_aload_n hx hb dX4_sells_70 rfl (lv_at hl 2 rfl) ?_
          refine lv_iload_n hx hb dX4_sells_71 rfl (lv_at hl 3 rfl) ?_
          refine ms_P (va_runV (As := [iv i]) (rest := []) ⟨hx, hb, hml, hown, hts⟩ (mt_X4_whole l D cI cS cJ h r1 r2 r3 r4 r5 r6 r7 wks wk gp rm mv tk th sk i (by omega)) (cwV 1 hts gX4_sells_X4_whole rfl rfl rfl (by decide +kernel) ⟨Nat.le_of_ble_eq_true rfl, Nat.le_of_ble_eq_true rfl⟩) (pc_V (ci := 4) (q0 := 0) hK (hP.sub (ws' := [(h, ob 4 [iv wks, iv wk, .ref r1, .ref r2, iv gp, iv rm, iv mv, .ref r3, .ref r4, .ref r5, .ref r6, iv tk, .ref r7, iv th]), (r3, ar cI 9 sk)]) [0, 2] rfl) rfl rfl (pcP_S hE hK (hP.sub (ws' := [(h, ob 4 [iv wks, iv wk, .ref r1, .ref r2, iv gp, iv rm, iv mv, .ref r3, .ref r4, .ref r5, .ref r6, iv tk, .ref r7, iv th]), (r3, ar cI 9 sk)]) [0, 2] rfl))) rfl rfl hl.1 rfl (lv_room (Nat.le_of_ble_eq_true rfl)) dX4_sells_72 ⟨Nat.le_of_ble_eq_true rfl, Nat.le_of_ble_eq_true rfl⟩) ?_
          subst hQ
          exact r_P hx hb hr hlocks (by rfl) dX4_sells_75 (by congr 1; unfold slv; omega)
        · skip
          refine lv_iload hx hb dX4_sells_65 (lv_at hl 0 rfl) ?_
          refine lv_goto (tgt := 75) hx hb dX4_sells_67 (by decide) ?_
          subst hQ
          exact r_P hx hb hr hlocks (by rfl) dX4_sells_75 (by congr 1; unfold slv; omega)
      refine i_if_le (tgt := 30) hx hb ⟨by omega, by omega⟩ dX4_sells_23 (by decide) (fun c_12 => ?_) (fun c_12 => ?_)
      · skip
        refine lv_iconst (v := zI 0) hx hb dX4_sells_30 rfl ?_
        exact J_31 0 (by rw [if_neg (show ¬ 0 < sk ((3 * i) + 2) by omega)]) ls (lv_sub hl [0, 1, 2, 3, 4] rfl)
      · skip
        refine lv_iconst (v := zI 1) hx hb dX4_sells_26 rfl ?_
        refine lv_goto (tgt := 31) hx hb dX4_sells_27 (by decide) ?_
        exact J_31 1 (by rw [if_pos (show 0 < sk ((3 * i) + 2) by omega)]) ls (lv_sub hl [0, 1, 2, 3, 4] rfl)
    refine i_if_le (tgt := 30) hx hb ⟨by omega, by omega⟩ dX4_sells_23 (by decide) (fun c_13 => ?_) (fun c_13 => ?_)
    · skip
      refine lv_iconst (v := zI 0) hx hb dX4_sells_30 rfl ?_
      exact J_31 0 (by rw [if_neg (show ¬ 0 < sk ((3 * i) + 1) by omega)]) ls (lv_sub hl [0, 1, 2, 3, 4] rfl)
    · skip
      refine lv_iconst (v := zI 1) hx hb dX4_sells_26 rfl ?_
      refine lv_goto (tgt := 31) hx hb dX4_sells_27 (by decide) ?_
      exact J_31 1 (by rw [if_pos (show 0 < sk ((3 * i) + 1) by omega)]) ls (lv_sub hl [0, 1, 2, 3, 4] rfl)
  refine i_if_le (tgt := 30) hx hb ⟨by omega, by omega⟩ dX4_sells_23 (by decide) (fun c_14 => ?_) (fun c_14 => ?_)
  · skip
    refine lv_iconst (v := zI 0) hx hb dX4_sells_30 rfl ?_
    exact J_31 0 (by rw [if_neg (show ¬ 0 < sk ((3 * i) + 0) by omega)]) ls (lv_sub hl [0, 1, 2, 3, 4] rfl)
  · skip
    refine lv_iconst (v := zI 1) hx hb dX4_sells_26 rfl ?_
    refine lv_goto (tgt := 31) hx hb dX4_sells_27 (by decide) ?_
    exact J_31 1 (by rw [if_pos (show 0 < sk ((3 * i) + 0) by omega)]) ls (lv_sub hl [0, 1, 2, 3, 4] rfl)
