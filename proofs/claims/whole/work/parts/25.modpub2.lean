abbrev rm_X4_planned : Room := { frames := 3, cells := 0, slots := 0, locals := 80 }
set_option maxHeartbeats 4000000 in
set_option maxRecDepth 100000 in
theorem mt_X4_planned (l : Launch) (D : va_G) (cI cS cJ : ClassId) (b : Nat → Nat) (x : Nat → Int → Int) (th : Int) (wt : Int → Int) (i : Int) (wk : Int) (hI : IX x) (bi : -2147483648 ≤ i ∧ i < 2147483648) (bwk : -2147483648 ≤ wk ∧ wk < 2147483648) : cM l yX4_planned wsX4_planned rm_X4_planned [.ref (b 0), iv i, iv wk] D (tyL cI cS cJ) [(b 0, ob 4 [iv (x 0 0), iv (x 0 1), .ref (b 1), .ref (b 2), iv (x 0 2), iv (x 0 3), iv (x 0 4), .ref (b 3), .ref (b 4), .ref (b 5), .ref (b 6), iv (x 0 5), .ref (b 7), iv th]), (b 1, ar cI 5 (x 1)), (b 2, ar cI 15 (x 2)), (b 3, ar cI 9 (x 3)), (b 4, ar cI 3 (x 4)), (b 5, ar cI 3 (x 5)), (b 6, ar cI 3 (x 6)), (b 7, ar cI 16775 wt)] (fun r_ w_ => ∃ rv : Int, ∃ th2 : Int, ∃ x2 : Nat → Int → Int, ∃ wt2 : Int → Int, (OUT ((0 ≤ i ∧ i < 3) ∧ x 0 1 ≤ wk ∧ wk < x 0 0) (True) th2 rv ((pst (x 1) (fun z : Int => x 2 (5 * i + z)) (x 0 2) (x 0 3) 60 (x 0 0 - x 0 1).toNat (x 4 i) (wtv (x 5 i) (x 0 2) (x 0 1)) (whl (fun z : Int => x 3 (3 * i + z))) (wk - x 0 1 + 1).toNat).1) x2 x x) ∧ r_ = some (iv rv) ∧ w_ = [(b 0, ob 4 [iv (x2 0 0), iv (x2 0 1), .ref (b 1), .ref (b 2), iv (x2 0 2), iv (x2 0 3), iv (x2 0 4), .ref (b 3), .ref (b 4), .ref (b 5), .ref (b 6), iv (x2 0 5), .ref (b 7), iv th2]), (b 1, ar cI 5 (x2 1)), (b 2, ar cI 15 (x2 2)), (b 3, ar cI 9 (x2 3)), (b 4, ar cI 3 (x2 4)), (b 5, ar cI 3 (x2 5)), (b 6, ar cI 3 (x2 6)), (b 7, ar cI 16775 wt2)]) 0 0 := by
  refine en_M (cc := cX4_planned) (maxL := 10) (ret := (some .int)) (by decide) rfl (Nat.le_of_ble_eq_true rfl) ?_
  intro p e s m args below meth c ls A hX hE hP hK hD hS hA hl Q hQ
  obtain ⟨hx, hb, hr, hml, hts, hown, hlocks, hnm⟩ := hX
  have hown : s.vm.findClass RX4 = some m.cls := hown
  have hl : lv_has ls 10 [(0, .ref (b 0)), (1, iv i), (2, iv wk)] := hl
  have inX4 : ∀ w ∈ u_ws RX4 TX4 14, w ∈ wsX4_planned := by decide +kernel
  have w0 : (Cond.fieldLink RX4 49 RX4 "week" "I").before args s = true := hts _ (by decide +kernel)
  have w1 : (Cond.fieldLink RX4 7 RX4 "weeks" "I").before args s = true := hts _ (by decide +kernel)
  have w2 : (Cond.fieldLink RX4 26 RX4 "step" "[I").before args s = true := hts _ (by decide +kernel)
  have w3 : (Cond.fieldLink RX4 17 RX4 "demand" "[I").before args s = true := hts _ (by decide +kernel)
  have w4 : (Cond.fieldLink RX4 13 RX4 "price" "[I").before args s = true := hts _ (by decide +kernel)
  have w5 : (Cond.fieldLink RX4 20 RX4 "gap" "I").before args s = true := hts _ (by decide +kernel)
  obtain ⟨hx00, hx01, hx02, hx03, hx04, hx1, hx2, hx3, hx4, hx5⟩ := id hI
  refine lv_aload_n hx hb dX4_planned_0 rfl (lv_at hl 0 rfl) ?_
  refine lv_iload_n hx hb dX4_planned_1 rfl (lv_at hl 1 rfl) ?_
  refine ms_P (va_runS (As := [iv i]) (rest := [.ref (b 0)]) ⟨hx, hb, hml, hown, hts⟩ (mt_X4_isStore l D cI cS cJ i (by omega)) (va_cwS 1 hts gX4_planned_X4_isStore rfl rfl rfl (by decide +kernel) ⟨Nat.le_of_ble_eq_true rfl, Nat.le_of_ble_eq_true rfl⟩) (pcP_S hE hK (hP.sub (ws' := []) [] rfl)) rfl rfl hl.1 rfl (lv_room (Nat.le_of_ble_eq_true rfl)) dX4_planned_2 ⟨Nat.le_of_ble_eq_true rfl, Nat.le_of_ble_eq_true rfl⟩) ?_
  rcases Classical.em (0 ≤ i ∧ i < 3) with c_1 | c_1
  · skip
    refine i_eqz (y := 1) (if_pos c_1) ?_
    refine i_if_eq (tgt := 29) hx hb ⟨by decide, by decide⟩ dX4_planned_5 (by decide) (fun c_2 => absurd c_2 (by decide)) (fun c_2 => ?_)
    refine lv_iload_n hx hb dX4_planned_8 rfl (lv_at hl 2 rfl) ?_
    refine lv_aload_n hx hb dX4_planned_9 rfl (lv_at hl 0 rfl) ?_
    refine va_get (D := D) (ci := 4) (v := iv (x 0 1)) (C := RX4) (T := TX4) (N := 14) hx hb hts inX4 hown hK hP 0 rfl rfl 1 (by decide) w0 (fun _ h9 => h9) rfl dX4_planned_10 ?_
    refine lv_aload_n hx hb dX4_planned_13 rfl (lv_at hl 0 rfl) ?_
    refine va_get (D := D) (ci := 4) (v := iv (x 0 0)) (C := RX4) (T := TX4) (N := 14) hx hb hts inX4 hown hK hP 0 rfl rfl 0 (by decide) w1 (fun _ h9 => h9) rfl dX4_planned_14 ?_
    refine lv_iconst (v := zI 1) hx hb dX4_planned_17 rfl ?_
    refine i_isub hx hb dX4_planned_18 ?_
    refine ms_P (va_runS (As := [iv wk, iv (x 0 1), iv ((x 0 0) - 1)]) (rest := [.ref (b 0)]) ⟨hx, hb, hml, hown, hts⟩ (mt_X4_in l D cI cS cJ wk (x 0 1) ((x 0 0) - 1) (by omega) (by omega) (by omega)) (va_cwS 3 hts gX4_planned_X4_in rfl rfl rfl (by decide +kernel) ⟨Nat.le_of_ble_eq_true rfl, Nat.le_of_ble_eq_true rfl⟩) (pcP_S hE hK (hP.sub (ws' := []) [] rfl)) rfl rfl hl.1 rfl (lv_room (Nat.le_of_ble_eq_true rfl)) dX4_planned_19 ⟨Nat.le_of_ble_eq_true rfl, Nat.le_of_ble_eq_true rfl⟩) ?_
    rcases Classical.em ((x 0 1) ≤ wk ∧ wk ≤ ((x 0 0) - 1)) with c_3 | c_3
    · skip
      refine i_eqz (y := 1) (if_pos c_3) ?_
      refine i_if_eq (tgt := 29) hx hb ⟨by decide, by decide⟩ dX4_planned_22 (by decide) (fun c_4 => absurd c_4 (by decide)) (fun c_4 => ?_)
      refine lv_iconst (v := zI 1) hx hb dX4_planned_25 rfl ?_
      refine lv_goto (tgt := 30) hx hb dX4_planned_26 (by decide) ?_
      refine ms_M (wc := [(b 0, ob 4 [iv (x 0 0), iv (x 0 1), .ref (b 1), .ref (b 2), iv (x 0 2), iv (x 0 3), iv (x 0 4), .ref (b 3), .ref (b 4), .ref (b 5), .ref (b 6), iv (x 0 5), .ref (b 7), iv th])]) (wr := [(b 1, ar cI 5 (x 1)), (b 2, ar cI 15 (x 2)), (b 3, ar cI 9 (x 3)), (b 4, ar cI 3 (x 4)), (b 5, ar cI 3 (x 5)), (b 6, ar cI 3 (x 6)), (b 7, ar cI 16775 wt)]) (va_runV (As := [iv 1]) (rest := []) ⟨hx, hb, hml, hown, hts⟩ ((mt_X4_asked1_1 l D cI cS cJ (b 0) (b 1) (b 2) (b 3) (b 4) (b 5) (b 6) (b 7) (x 0 0) (x 0 1) (x 0 2) (x 0 3) (x 0 4) (x 0 5) th) s.heap.size) (cwV 1 hts gX4_planned_X4_asked rfl rfl rfl (by decide +kernel) ⟨Nat.le_of_ble_eq_true rfl, Nat.le_of_ble_eq_true rfl⟩) (pc_V (ci := 4) (q0 := 0) hK (hP.sub (ws' := [(b 0, ob 4 [iv (x 0 0), iv (x 0 1), .ref (b 1), .ref (b 2), iv (x 0 2), iv (x 0 3), iv (x 0 4), .ref (b 3), .ref (b 4), .ref (b 5), .ref (b 6), iv (x 0 5), .ref (b 7), iv th])]) [0] rfl) rfl rfl (pcM_S hE hK (hP.sub (ws' := [(b 0, ob 4 [iv (x 0 0), iv (x 0 1), .ref (b 1), .ref (b 2), iv (x 0 2), iv (x 0 3), iv (x 0 4), .ref (b 3), .ref (b 4), .ref (b 5), .ref (b 6), iv (x 0 5), .ref (b 7), iv th])]) [0] rfl) (hD.sub (ws' := [(b 0, ob 4 [iv (x 0 0), iv (x 0 1), .ref (b 1), .ref (b 2), iv (x 0 2), iv (x 0 3), iv (x 0 4), .ref (b 3), .ref (b 4), .ref (b 5), .ref (b 6), iv (x 0 5), .ref (b 7), iv th])]) [0] (by decide) rfl))) rfl rfl hl.1 rfl (lv_room (Nat.le_of_ble_eq_true rfl)) dX4_planned_30 ⟨Nat.le_of_ble_eq_true rfl, Nat.le_of_ble_eq_true rfl⟩) hP hD hS hA [0] [1, 2, 3, 4, 5, 6, 7] rfl rfl (by decide) (by decide) (fun r_ w_ H locs hq_ hP hD hS => ?_)
      obtain ⟨rfl, rfl⟩ := hq_
      have hP : va_P D vwCl [(b 1, ar cI 5 (x 1)), (b 2, ar cI 15 (x 2)), (b 3, ar cI 9 (x 3)), (b 4, ar cI 3 (x 4)), (b 5, ar cI 3 (x 5)), (b 6, ar cI 3 (x 6)), (b 7, ar cI 16775 wt), (b 0, ob 4 [iv (x 0 0), iv (x 0 1), .ref (b 1), .ref (b 2), iv (x 0 2), iv (x 0 3), iv (x 0 4), .ref (b 3), .ref (b 4), .ref (b 5), .ref (b 6), iv (x 0 5), .ref (b 7), iv 0])] H := hP
      have hD : va_D A [(b 1, ar cI 5 (x 1)), (b 2, ar cI 15 (x 2)), (b 3, ar cI 9 (x 3)), (b 4, ar cI 3 (x 4)), (b 5, ar cI 3 (x 5)), (b 6, ar cI 3 (x 6)), (b 7, ar cI 16775 wt), (b 0, ob 4 [iv (x 0 0), iv (x 0 1), .ref (b 1), .ref (b 2), iv (x 0 2), iv (x 0 3), iv (x 0 4), .ref (b 3), .ref (b 4), .ref (b 5), .ref (b 6), iv (x 0 5), .ref (b 7), iv 0])] := hD
      refine i_if_ne (tgt := 38) hx hb ⟨by decide, by decide⟩ dX4_planned_33 (by decide) (fun c_5 => ?_) (fun c_5 => absurd c_5 (by decide))
      refine lv_aload_n hx hb dX4_planned_38 rfl (lv_at hl 0 rfl) ?_
      refine lv_iload_n hx hb dX4_planned_39 rfl (lv_at hl 1 rfl) ?_
      refine lv_bipush (v := zI 60) hx hb dX4_planned_40 (by decide) ?_
      refine ms_M (wc := [(b 0, ob 4 [iv (x 0 0), iv (x 0 1), .ref (b 1), .ref (b 2), iv (x 0 2), iv (x 0 3), iv (x 0 4), .ref (b 3), .ref (b 4), .ref (b 5), .ref (b 6), iv (x 0 5), .ref (b 7), iv 0]), (b 1, ar cI 5 (x 1)), (b 2, ar cI 15 (x 2)), (b 3, ar cI 9 (x 3)), (b 4, ar cI 3 (x 4)), (b 5, ar cI 3 (x 5)), (b 7, ar cI 16775 wt)]) (wr := [(b 6, ar cI 3 (x 6))]) (va_runV (As := [iv i, iv 60]) (rest := []) ⟨hx, hb, hml, hown, hts⟩ ((mt_X4_finds l D cI cS cJ (b 0) (b 1) (b 2) (b 3) (b 4) (b 5) (b 6) (b 7) (x 0 0) (x 0 1) (x 0 2) (x 0 3) (x 0 4) (x 0 5) 0 (x 1) (x 2) (x 3) (x 4) (x 5) wt i 60 (by omega) (by omega) (by omega) (hx1) (fun j a b => hx2 i j (by omega) (by omega) a b) (by omega) (by omega) (⟨by decide, by decide⟩) (hx4 i (by omega) (by omega)) (hx5 i (by omega) (by omega)) (ix_wh hI ⟨by omega, by omega⟩)) H.size) (cwV 2 hts gX4_planned_X4_finds rfl rfl rfl (by decide +kernel) ⟨Nat.le_of_ble_eq_true rfl, Nat.le_of_ble_eq_true rfl⟩) (pc_V (ci := 4) (q0 := 0) hK (hP.sub (ws' := [(b 0, ob 4 [iv (x 0 0), iv (x 0 1), .ref (b 1), .ref (b 2), iv (x 0 2), iv (x 0 3), iv (x 0 4), .ref (b 3), .ref (b 4), .ref (b 5), .ref (b 6), iv (x 0 5), .ref (b 7), iv 0]), (b 1, ar cI 5 (x 1)), (b 2, ar cI 15 (x 2)), (b 3, ar cI 9 (x 3)), (b 4, ar cI 3 (x 4)), (b 5, ar cI 3 (x 5)), (b 7, ar cI 16775 wt)]) [7, 0, 1, 2, 3, 4, 6] rfl) rfl rfl (pcM_S hE hK (hP.sub (ws' := [(b 0, ob 4 [iv (x 0 0), iv (x 0 1), .ref (b 1), .ref (b 2), iv (x 0 2), iv (x 0 3), iv (x 0 4), .ref (b 3), .ref (b 4), .ref (b 5), .ref (b 6), iv (x 0 5), .ref (b 7), iv 0]), (b 1, ar cI 5 (x 1)), (b 2, ar cI 15 (x 2)), (b 3, ar cI 9 (x 3)), (b 4, ar cI 3 (x 4)), (b 5, ar cI 3 (x 5)), (b 7, ar cI 16775 wt)]) [7, 0, 1, 2, 3, 4, 6] rfl) (hD.sub (ws' := [(b 0, ob 4 [iv (x 0 0), iv (x 0 1), .ref (b 1), .ref (b 2), iv (x 0 2), iv (x 0 3), iv (x 0 4), .ref (b 3), .ref (b 4), .ref (b 5), .ref (b 6), iv (x 0 5), .ref (b 7), iv 0]), (b 1, ar cI 5 (x 1)), (b 2, ar cI 15 (x 2)), (b 3, ar cI 9 (x 3)), (b 4, ar cI 3 (x 4)), (b 5, ar cI 3 (x 5)), (b 7, ar cI 16775 wt)]) [7, 0, 1, 2, 3, 4, 6] (by decide) rfl))) rfl rfl hl.1 rfl (lv_room (Nat.le_of_ble_eq_true rfl)) dX4_planned_42 ⟨Nat.le_of_ble_eq_true rfl, Nat.le_of_ble_eq_true rfl⟩) hP hD hS hA [7, 0, 1, 2, 3, 4, 6] [5] rfl rfl (by decide) (by decide) (fun r_ w_ H locs hq_ hP hD hS => ?_)
      obtain ⟨wt2_6, hf_7, rfl, rfl⟩ := hq_
      have hP : va_P D vwCl [(b 6, ar cI 3 (x 6)), (b 0, ob 4 [iv (x 0 0), iv (x 0 1), .ref (b 1), .ref (b 2), iv (x 0 2), iv (x 0 3), iv (x 0 4), .ref (b 3), .ref (b 4), .ref (b 5), .ref (b 6), iv (x 0 5), .ref (b 7), iv 0]), (b 1, ar cI 5 (x 1)), (b 2, ar cI 15 (x 2)), (b 3, ar cI 9 (x 3)), (b 4, ar cI 3 (x 4)), (b 5, ar cI 3 (x 5)), (b 7, ar cI 16775 wt2_6)] H := hP
      have hD : va_D A [(b 6, ar cI 3 (x 6)), (b 0, ob 4 [iv (x 0 0), iv (x 0 1), .ref (b 1), .ref (b 2), iv (x 0 2), iv (x 0 3), iv (x 0 4), .ref (b 3), .ref (b 4), .ref (b 5), .ref (b 6), iv (x 0 5), .ref (b 7), iv 0]), (b 1, ar cI 5 (x 1)), (b 2, ar cI 15 (x 2)), (b 3, ar cI 9 (x 3)), (b 4, ar cI 3 (x 4)), (b 5, ar cI 3 (x 5)), (b 7, ar cI 16775 wt2_6)] := hD
      have hf_7 : GT (x 1) (fun z : Int => (x 2 (5 * i + z))) (x 0 2) (x 0 3) 60 (x 0 0) wt2_6 (x 0 1) := hf_7
      have hG : GT (x 1) (fun z : Int => x 2 (5 * i + z)) (x 0 2) (x 0 3) 60 (x 0 0) wt2_6 (x 0 1) := hf_7
      refine lv_istore_n (lv' := [(3, iv (pv (x 1) (fun z : Int => (x 2 (5 * i + z))) (x 0 2) (x 0 3) 60 ((x 0 0) - (x 0 1)).toNat ((x 4 i)) (wtv ((x 5 i)) (x 0 2) (x 0 1)) (whl (fun z : Int => (x 3 (3 * i + z)))))), (0, .ref (b 0)), (1, iv i), (2, iv wk)]) hx hb dX4_planned_45 rfl hl (by decide) rfl (fun ls hl => ?_)
      have hd0 : ∀ j : Int, 0 ≤ j → j < 5 → 0 ≤ (fun z : Int => x 2 (5 * i + z)) j := fun j q1 q2 => (hx2 i j (by omega) (by omega) q1 q2).1
      have hp0 : ∀ j : Int, 0 ≤ j → j < 5 → 0 ≤ x 1 j := fun j q1 q2 => (hx1 j q1 q2).1
      refine lv_aload_n hx hb dX4_planned_46 rfl (lv_at hl 1 rfl) ?_
      refine va_get (D := D) (ci := 4) (v := .ref (b 4)) (C := RX4) (T := TX4) (N := 14) hx hb hts inX4 hown hK hP 1 rfl rfl 8 (by decide) w2 (fun _ h9 => h9) rfl dX4_planned_47 ?_
      refine lv_iload_n hx hb dX4_planned_50 rfl (lv_at hl 2 rfl) ?_
      refine i_iald hx hb hK hP 5 0 rfl rfl (by omega) (by omega) (by decide) dX4_planned_51 ?_
      refine lv_istore (lv' := [(4, iv (x 4 i)), (3, iv (pv (x 1) (fun z : Int => (x 2 (5 * i + z))) (x 0 2) (x 0 3) 60 ((x 0 0) - (x 0 1)).toNat ((x 4 i)) (wtv ((x 5 i)) (x 0 2) (x 0 1)) (whl (fun z : Int => (x 3 (3 * i + z)))))), (0, .ref (b 0)), (1, iv i), (2, iv wk)]) hx hb dX4_planned_52 hl (by decide) rfl (fun ls hl => ?_)
      refine lv_aload_n hx hb dX4_planned_54 rfl (lv_at hl 2 rfl) ?_
      refine lv_iload_n hx hb dX4_planned_55 rfl (lv_at hl 3 rfl) ?_
      refine ms_P (va_runV (As := [iv i]) (rest := []) ⟨hx, hb, hml, hown, hts⟩ (mt_X4_waits l D cI cS cJ (b 0) (b 1) (b 2) (b 3) (b 4) (b 5) (b 6) (b 7) (x 0 0) (x 0 1) (x 0 2) (x 0 3) (x 0 4) (x 0 5) 0 (x 5) i (by omega) (by have := hx5 i (by omega) (by omega); omega) (by omega) (by omega)) (cwV 1 hts gX4_planned_X4_waits rfl rfl rfl (by decide +kernel) ⟨Nat.le_of_ble_eq_true rfl, Nat.le_of_ble_eq_true rfl⟩) (pc_V (ci := 4) (q0 := 0) hK (hP.sub (ws' := [(b 0, ob 4 [iv (x 0 0), iv (x 0 1), .ref (b 1), .ref (b 2), iv (x 0 2), iv (x 0 3), iv (x 0 4), .ref (b 3), .ref (b 4), .ref (b 5), .ref (b 6), iv (x 0 5), .ref (b 7), iv 0]), (b 5, ar cI 3 (x 5))]) [1, 6] rfl) rfl rfl (pcP_S hE hK (hP.sub (ws' := [(b 0, ob 4 [iv (x 0 0), iv (x 0 1), .ref (b 1), .ref (b 2), iv (x 0 2), iv (x 0 3), iv (x 0 4), .ref (b 3), .ref (b 4), .ref (b 5), .ref (b 6), iv (x 0 5), .ref (b 7), iv 0]), (b 5, ar cI 3 (x 5))]) [1, 6] rfl))) rfl rfl hl.1 rfl (lv_room (Nat.le_of_ble_eq_true rfl)) dX4_planned_56 ⟨Nat.le_of_ble_eq_true rfl, Nat.le_of_ble_eq_true rfl⟩) ?_
      refine lv_istore (lv' := [(5, iv (wtv ((x 5 i)) (x 0 2) (x 0 1))), (4, iv (x 4 i)), (3, iv (pv (x 1) (fun z : Int => (x 2 (5 * i + z))) (x 0 2) (x 0 3) 60 ((x 0 0) - (x 0 1)).toNat ((x 4 i)) (wtv ((x 5 i)) (x 0 2) (x 0 1)) (whl (fun z : Int => (x 3 (3 * i + z)))))), (0, .ref (b 0)), (1, iv i), (2, iv wk)]) hx hb dX4_planned_59 hl (by decide) rfl (fun ls hl => ?_)
      refine lv_aload_n hx hb dX4_planned_61 rfl (lv_at hl 3 rfl) ?_
      refine lv_iload_n hx hb dX4_planned_62 rfl (lv_at hl 4 rfl) ?_
      refine ms_P (va_runV (As := [iv i]) (rest := []) ⟨hx, hb, hml, hown, hts⟩ (mt_X4_whole l D cI cS cJ (b 0) (b 1) (b 2) (b 3) (b 4) (b 5) (b 6) (b 7) (x 0 0) (x 0 1) (x 0 2) (x 0 3) (x 0 4) (x 0 5) 0 (x 3) i (by omega)) (cwV 1 hts gX4_planned_X4_whole rfl rfl rfl (by decide +kernel) ⟨Nat.le_of_ble_eq_true rfl, Nat.le_of_ble_eq_true rfl⟩) (pc_V (ci := 4) (q0 := 0) hK (hP.sub (ws' := [(b 0, ob 4 [iv (x 0 0), iv (x 0 1), .ref (b 1), .ref (b 2), iv (x 0 2), iv (x 0 3), iv (x 0 4), .ref (b 3), .ref (b 4), .ref (b 5), .ref (b 6), iv (x 0 5), .ref (b 7), iv 0]), (b 3, ar cI 9 (x 3))]) [1, 4] rfl) rfl rfl (pcP_S hE hK (hP.sub (ws' := [(b 0, ob 4 [iv (x 0 0), iv (x 0 1), .ref (b 1), .ref (b 2), iv (x 0 2), iv (x 0 3), iv (x 0 4), .ref (b 3), .ref (b 4), .ref (b 5), .ref (b 6), iv (x 0 5), .ref (b 7), iv 0]), (b 3, ar cI 9 (x 3))]) [1, 4] rfl))) rfl rfl hl.1 rfl (lv_room (Nat.le_of_ble_eq_true rfl)) dX4_planned_63 ⟨Nat.le_of_ble_eq_true rfl, Nat.le_of_ble_eq_true rfl⟩) ?_
      refine lv_istore (lv' := [(6, iv (whl (fun z : Int => (x 3 (3 * i + z))))), (5, iv (wtv ((x 5 i)) (x 0 2) (x 0 1))), (4, iv (x 4 i)), (3, iv (pv (x 1) (fun z : Int => (x 2 (5 * i + z))) (x 0 2) (x 0 3) 60 ((x 0 0) - (x 0 1)).toNat ((x 4 i)) (wtv ((x 5 i)) (x 0 2) (x 0 1)) (whl (fun z : Int => (x 3 (3 * i + z)))))), (0, .ref (b 0)), (1, iv i), (2, iv wk)]) hx hb dX4_planned_66 hl (by decide) rfl (fun ls hl => ?_)
      refine lv_aload_n hx hb dX4_planned_68 rfl (lv_at hl 4 rfl) ?_
      refine va_get (D := D) (ci := 4) (v := iv (x 0 1)) (C := RX4) (T := TX4) (N := 14) hx hb hts inX4 hown hK hP 1 rfl rfl 1 (by decide) w0 (fun _ h9 => h9) rfl dX4_planned_69 ?_
      refine lv_istore (lv' := [(7, iv (x 0 1)), (6, iv (whl (fun z : Int => (x 3 (3 * i + z))))), (5, iv (wtv ((x 5 i)) (x 0 2) (x 0 1))), (4, iv (x 4 i)), (3, iv (pv (x 1) (fun z : Int => (x 2 (5 * i + z))) (x 0 2) (x 0 3) 60 ((x 0 0) - (x 0 1)).toNat ((x 4 i)) (wtv ((x 5 i)) (x 0 2) (x 0 1)) (whl (fun z : Int => (x 3 (3 * i + z)))))), (0, .ref (b 0)), (1, iv i), (2, iv wk)]) hx hb dX4_planned_72 hl (by decide) rfl (fun ls hl => ?_)
      have J_74 : ∀ (n_74 : Nat) (nw : Int) (sp : Int) (w : Int) (lf : Int) (bv : Int) (hnw : x 0 1 ≤ nw ∧ nw ≤ wk + 1) (hsp : 0 ≤ sp ∧ sp < 5) (hw : 0 ≤ w ∧ w < 5) (hlf : 0 ≤ lf ∧ lf ≤ 60) (hps : pst (x 1) (fun z : Int => x 2 (5 * i + z)) (x 0 2) (x 0 3) 60 (x 0 0 - x 0 1).toNat (x 4 i) (wtv (x 5 i) (x 0 2) (x 0 1)) (whl (fun z : Int => x 3 (3 * i + z))) (nw - x 0 1).toNat = (sp, w, lf)) (hbv : bv = pv (x 1) (fun z : Int => x 2 (5 * i + z)) (x 0 2) (x 0 3) 60 (x 0 0 - nw).toNat sp w lf) (hm_74 : ((wk + 1 - nw).toNat) < n_74) (ls : Array Slot) (hl : lv_has ls 10 [(0, .ref (b 0)), (1, iv i), (2, iv wk), (3, iv bv), (4, iv sp), (5, iv w), (6, iv lf), (7, iv nw)]), W p l e rm_X4_planned s m args below meth c H locs (0 + 0 + 0) (0 + 0 + 0) Q (F0 m 74 ls []) := by
        intro n_74
        induction n_74 with
        | zero => intro nw sp w lf bv hnw hsp hw hlf hps hbv hm_74 ls hl; exact absurd hm_74 (Nat.not_lt_zero _)
        | succ n_74 ih_74 =>
          intro nw sp w lf bv hnw hsp hw hlf hps hbv hm_74 ls hl
          have hn1 : (x 0 0 - x 0 1).toNat - (nw - x 0 1).toNat = (x 0 0 - nw).toNat := by omega
          refine lv_iload hx hb dX4_planned_74 (lv_at hl 7 rfl) ?_
          refine lv_iload_n hx hb dX4_planned_76 rfl (lv_at hl 2 rfl) ?_
          refine i_icmp_gt (tgt := 200) hx hb ⟨by omega, by omega⟩ ⟨by omega, by omega⟩ dX4_planned_77 (by decide) (fun c_8 => ?_) (fun c_8 => ?_)
          · skip
            refine lv_iload hx hb dX4_planned_200 (lv_at hl 4 rfl) ?_
            subst hQ
            exact r_Mi hx hb hr hlocks (by first | rfl | decide) dX4_planned_202 hS (hP.sub (ws' := [(b 0, ob 4 [iv (x 0 0), iv (x 0 1), .ref (b 1), .ref (b 2), iv (x 0 2), iv (x 0 3), iv (x 0 4), .ref (b 3), .ref (b 4), .ref (b 5), .ref (b 6), iv (x 0 5), .ref (b 7), iv 0]), (b 1, ar cI 5 (x 1)), (b 2, ar cI 15 (x 2)), (b 3, ar cI 9 (x 3)), (b 4, ar cI 3 (x 4)), (b 5, ar cI 3 (x 5)), (b 6, ar cI 3 (x 6)), (b 7, ar cI 16775 wt2_6)]) [1, 2, 3, 4, 5, 6, 0, 7] rfl) (hD.sub (ws' := [(b 0, ob 4 [iv (x 0 0), iv (x 0 1), .ref (b 1), .ref (b 2), iv (x 0 2), iv (x 0 3), iv (x 0 4), .ref (b 3), .ref (b 4), .ref (b 5), .ref (b 6), iv (x 0 5), .ref (b 7), iv 0]), (b 1, ar cI 5 (x 1)), (b 2, ar cI 15 (x 2)), (b 3, ar cI 9 (x 3)), (b 4, ar cI 3 (x 4)), (b 5, ar cI 3 (x 5)), (b 6, ar cI 3 (x 6)), (b 7, ar cI 16775 wt2_6)]) [1, 2, 3, 4, 5, 6, 0, 7] (by decide) rfl) (⟨sp, 0, x, wt2_6, (Or.inl ⟨by omega, trivial, rfl, by rw [show (wk - x 0 1 + 1).toNat = (nw - x 0 1).toNat by omega, hps], rfl⟩), rfl, rfl⟩) (Nat.le_of_ble_eq_true rfl) (Nat.le_of_ble_eq_true rfl)
          · skip
            have hpos := pv_pos (pr := x 1) (d := (fun z : Int => x 2 (5 * i + z))) (g := x 0 2) (r := x 0 3) (ml := 60) hd0 hp0 hx03.1 (x 0 0 - nw).toNat sp w lf hsp.1 hsp.2 hlf.1 hlf.2
            have hple := pv_le (pr := x 1) (d := (fun z : Int => x 2 (5 * i + z))) (g := x 0 2) (r := x 0 3) (ml := 60) hd0 hx1 hx03.2 (x 0 0 - nw).toNat sp w lf hsp.1 hlf.1
            rw [← hbv] at hpos hple
            have hn2 : (x 0 0 - nw).toNat = (x 0 0 - nw - 1).toNat + 1 := by omega
            obtain ⟨i9, z1, z2, z3⟩ := pv_ex (pr := x 1) (d := (fun z : Int => x 2 (5 * i + z))) (g := x 0 2) (r := x 0 3) (ml := 60) (x 0 0 - nw - 1).toNat (b := sp) (w := w) (l := lf) hsp.2 (by rw [← hn2, ← hbv]; omega)
            rw [← hn2, ← hbv] at z3
            have hG2 := hG.mono (show x 0 1 ≤ nw + 1 by omega)
            refine lv_iload hx hb dX4_planned_80 (lv_at hl 4 rfl) ?_
            refine lv_istore (lv' := [(8, iv sp), (0, .ref (b 0)), (1, iv i), (2, iv wk), (3, iv bv), (4, iv sp), (5, iv w), (6, iv lf), (7, iv nw)]) hx hb dX4_planned_82 hl (by decide) rfl (fun ls hl => ?_)
            have J_84 : ∀ (n_84 : Nat) (it : Int) (hit : sp ≤ it ∧ it ≤ i9) (hno : ∀ j : Int, sp ≤ j → j < it → cand (pv (x 1) (fun z : Int => x 2 (5 * i + z)) (x 0 2) (x 0 3) 60 (x 0 0 - nw - 1).toNat) (x 1) (fun z : Int => x 2 (5 * i + z)) (x 0 2) sp w lf j ≠ bv) (hm_84 : ((5 - it).toNat) < n_84) (ls : Array Slot) (hl : lv_has ls 10 [(0, .ref (b 0)), (1, iv i), (2, iv wk), (3, iv bv), (4, iv it), (5, iv w), (6, iv lf), (7, iv nw), (8, iv sp)]), W p l e rm_X4_planned s m args below meth c H locs (0 + 0 + 0) (0 + 0 + 0) Q (F0 m 84 ls []) := by
              intro n_84
              induction n_84 with
              | zero => intro it hit hno hm_84 ls hl; exact absurd hm_84 (Nat.not_lt_zero _)
              | succ n_84 ih_84 =>
                intro it hit hno hm_84 ls hl
                refine lv_aload_n hx hb dX4_planned_84 rfl (lv_at hl 0 rfl) ?_
                refine lv_iload_n hx hb dX4_planned_85 rfl (lv_at hl 1 rfl) ?_
                refine lv_iload hx hb dX4_planned_86 (lv_at hl 7 rfl) ?_
                refine lv_iload hx hb dX4_planned_88 (lv_at hl 8 rfl) ?_
                refine lv_iload hx hb dX4_planned_90 (lv_at hl 5 rfl) ?_
                refine lv_iload hx hb dX4_planned_92 (lv_at hl 6 rfl) ?_
                refine lv_iload hx hb dX4_planned_94 (lv_at hl 4 rfl) ?_
                refine ms_P (va_runV (As := [iv i, iv nw, iv sp, iv w, iv lf, iv it]) (rest := []) ⟨hx, hb, hml, hown, hts⟩ (mt_X4_worthOf l D cI cS cJ (b 0) (b 1) (b 2) (b 3) (b 4) (b 5) (b 6) (b 7) (x 0 0) (x 0 1) (x 0 2) (x 0 3) (x 0 4) (x 0 5) 0 (x 1) (x 2) wt2_6 i 60 nw sp w lf it (by omega) (by omega) (by omega) (hx1) (fun j q1 q2 => hx2 i j (by omega) (by omega) q1 q2) (by omega) (by omega) (by omega) (by omega) (by omega) (by omega) (hG2)) (cwV 6 hts gX4_planned_X4_worthOf rfl rfl rfl (by decide +kernel) ⟨Nat.le_of_ble_eq_true rfl, Nat.le_of_ble_eq_true rfl⟩) (pc_V (ci := 4) (q0 := 0) hK (hP.sub (ws' := [(b 0, ob 4 [iv (x 0 0), iv (x 0 1), .ref (b 1), .ref (b 2), iv (x 0 2), iv (x 0 3), iv (x 0 4), .ref (b 3), .ref (b 4), .ref (b 5), .ref (b 6), iv (x 0 5), .ref (b 7), iv 0]), (b 1, ar cI 5 (x 1)), (b 2, ar cI 15 (x 2)), (b 7, ar cI 16775 wt2_6)]) [1, 2, 3, 7] rfl) rfl rfl (pcP_S hE hK (hP.sub (ws' := [(b 0, ob 4 [iv (x 0 0), iv (x 0 1), .ref (b 1), .ref (b 2), iv (x 0 2), iv (x 0 3), iv (x 0 4), .ref (b 3), .ref (b 4), .ref (b 5), .ref (b 6), iv (x 0 5), .ref (b 7), iv 0]), (b 1, ar cI 5 (x 1)), (b 2, ar cI 15 (x 2)), (b 7, ar cI 16775 wt2_6)]) [1, 2, 3, 7] rfl))) rfl rfl hl.1 rfl (lv_room (Nat.le_of_ble_eq_true rfl)) dX4_planned_96 ⟨Nat.le_of_ble_eq_true rfl, Nat.le_of_ble_eq_true rfl⟩) ?_
                refine i_name (fun cv hcv => ?_)
                have hcb := cand_in (pr := x 1) (d := (fun z : Int => x 2 (5 * i + z))) (g := x 0 2) (r := x 0 3) (ml := 60) (b := sp) (i := it) (l := lf) (w := w) hd0 hx1 hx03 (x 0 0 - nw - 1).toNat (by omega) (by omega) hlf.1
                rw [← hcv] at hcb
                refine lv_iload_n hx hb dX4_planned_99 rfl (lv_at hl 3 rfl) ?_
                refine i_icmp_eq (tgt := 109) hx hb ⟨by omega, by omega⟩ ⟨by omega, by omega⟩ dX4_planned_100 (by decide) (fun c_9 => ?_) (fun c_9 => ?_)
                · skip
                  have hdi := hx2 i it (by omega) (by omega) (by omega) (by omega)
                  have hpi := hx1 it (by omega) (by omega)
                  have hfi : fnd (cand (pv (x 1) (fun z : Int => x 2 (5 * i + z)) (x 0 2) (x 0 3) 60 (x 0 0 - nw - 1).toNat) (x 1) (fun z : Int => x 2 (5 * i + z)) (x 0 2) sp w lf) (pv (x 1) (fun z : Int => x 2 (5 * i + z)) (x 0 2) (x 0 3) 60 (x 0 0 - nw).toNat sp w lf) sp (5 - sp).toNat = it := by
                    rw [← hbv]
                    exact fnd_eq _ hit.1 (by omega) (by rw [← hcv]; exact c_9) hno
                  refine lv_aload_n hx hb dX4_planned_109 rfl (lv_at hl 0 rfl) ?_
                  refine va_get (D := D) (ci := 4) (v := .ref (b 2)) (C := RX4) (T := TX4) (N := 14) hx hb hts inX4 hown hK hP 1 rfl rfl 3 (by decide) w3 (fun _ h9 => h9) rfl dX4_planned_110 ?_
                  refine lv_iconst (v := zI 5) hx hb dX4_planned_113 rfl ?_
                  refine lv_iload_n hx hb dX4_planned_114 rfl (lv_at hl 1 rfl) ?_
                  refine i_imul hx hb dX4_planned_115 ?_
                  refine lv_iload hx hb dX4_planned_116 (lv_at hl 4 rfl) ?_
                  refine i_iadd hx hb dX4_planned_118 ?_
                  refine i_iald hx hb hK hP 3 0 rfl rfl (by omega) (by omega) (by decide) dX4_planned_119 ?_
                  refine lv_iload hx hb dX4_planned_120 (lv_at hl 6 rfl) ?_
                  have J_141 : ∀ (sl : Int) (hsl : sl = min (x 2 (5 * i + it)) lf) (ls : Array Slot) (hl : lv_has ls 10 [(0, .ref (b 0)), (1, iv i), (2, iv wk), (3, iv bv), (4, iv it), (5, iv w), (6, iv lf), (7, iv nw), (8, iv sp)]), W p l e rm_X4_planned s m args below meth c H locs (0 + 0 + 0) (0 + 0 + 0) Q (F0 m 141 ls [iv sl]) := by
                    intro sl hsl ls hl
                    refine lv_istore (lv' := [(9, iv sl), (0, .ref (b 0)), (1, iv i), (2, iv wk), (3, iv bv), (4, iv it), (5, iv w), (6, iv lf), (7, iv nw), (8, iv sp)]) hx hb dX4_planned_141 hl (by decide) rfl (fun ls hl => ?_)
                    refine lv_iload_n hx hb dX4_planned_143 rfl (lv_at hl 4 rfl) ?_
                    refine lv_iload hx hb dX4_planned_144 (lv_at hl 0 rfl) ?_
                    refine lv_aload_n hx hb dX4_planned_146 rfl (lv_at hl 1 rfl) ?_
                    refine va_get (D := D) (ci := 4) (v := .ref (b 1)) (C := RX4) (T := TX4) (N := 14) hx hb hts inX4 hown hK hP 1 rfl rfl 2 (by decide) w4 (fun _ h9 => h9) rfl dX4_planned_147 ?_
                    refine lv_iload hx hb dX4_planned_150 (lv_at hl 5 rfl) ?_
                    refine i_iald hx hb hK hP 2 0 rfl rfl (by omega) (by omega) (by decide) dX4_planned_152 ?_
                    refine i_imul hx hb dX4_planned_153 ?_
                    refine i_isub hx hb dX4_planned_154 ?_
                    refine lv_istore_n (lv' := [(3, iv (bv - (sl * (x 1 it)))), (9, iv sl), (0, .ref (b 0)), (1, iv i), (2, iv wk), (4, iv it), (5, iv w), (6, iv lf), (7, iv nw), (8, iv sp)]) hx hb dX4_planned_155 rfl hl (by decide) rfl (fun ls hl => ?_)
                    refine lv_iload hx hb dX4_planned_156 (lv_at hl 7 rfl) ?_
                    refine lv_iload hx hb dX4_planned_158 (lv_at hl 1 rfl) ?_
                    refine i_isub hx hb dX4_planned_160 ?_
                    refine lv_istore (lv' := [(6, iv (lf - sl)), (3, iv (bv - (sl * (x 1 it)))), (9, iv sl), (0, .ref (b 0)), (1, iv i), (2, iv wk), (4, iv it), (5, iv w), (7, iv nw), (8, iv sp)]) hx hb dX4_planned_161 hl (by decide) rfl (fun ls hl => ?_)
                    refine lv_iload hx hb dX4_planned_163 (lv_at hl 6 rfl) ?_
                    refine lv_iload hx hb dX4_planned_165 (lv_at hl 9 rfl) ?_
                    have J_192 : ∀ (tt : Int) (htt : tt = if sp < it then x 0 2 - 1 else if 0 < w then w - 1 else 0) (ht4 : 0 ≤ tt ∧ tt < 5) (ls : Array Slot) (hl : lv_has ls 10 [(6, iv (lf - sl)), (3, iv (bv - (sl * (x 1 it)))), (9, iv sl), (0, .ref (b 0)), (1, iv i), (2, iv wk), (4, iv it), (5, iv w), (7, iv nw), (8, iv sp)]), W p l e rm_X4_planned s m args below meth c H locs (0 + 0 + 0) (0 + 0 + 0) Q (F0 m 192 ls [iv tt]) := by
                      intro tt htt ht4 ls hl
                      have hpn : pst (x 1) (fun z : Int => x 2 (5 * i + z)) (x 0 2) (x 0 3) 60 (x 0 0 - x 0 1).toNat (x 4 i) (wtv (x 5 i) (x 0 2) (x 0 1)) (whl (fun z : Int => x 3 (3 * i + z))) ((nw + 1) - x 0 1).toNat = (it, tt, lf - sl) := by
                        rw [show (nw + 1 - x 0 1).toNat = (nw - x 0 1).toNat + 1 by omega]
                        unfold pst
                        rw [hps, hn1]
                        simp only []
                        rw [show (x 0 0 - nw).toNat - 1 = (x 0 0 - nw - 1).toNat by omega, hfi, ← htt, ← hsl]
                      have hcd : add1 (pv (x 1) (fun z : Int => x 2 (5 * i + z)) (x 0 2) (x 0 3) 60 (x 0 0 - nw - 1).toNat it tt (lf - sl)) (sl * x 1 it) = bv := by
                        have h9 : cv = bv := by assumption
                        rw [← h9, hcv]
                        unfold cand
                        rw [if_neg (show ¬ (sp < it ∧ 0 < w) from fun hc => by
                          have h8 : cv = -1 := by rw [hcv]; unfold cand; rw [if_pos hc]
                          omega), ← htt, ← hsl]
                      have hbn : bv - sl * x 1 it = pv (x 1) (fun z : Int => x 2 (5 * i + z)) (x 0 2) (x 0 3) 60 (x 0 0 - (nw + 1)).toNat it tt (lf - sl) := by
                        rw [show (x 0 0 - (nw + 1)).toNat = (x 0 0 - nw - 1).toNat by omega]
                        unfold add1 at hcd
                        by_cases hV : pv (x 1) (fun z : Int => x 2 (5 * i + z)) (x 0 2) (x 0 3) 60 (x 0 0 - nw - 1).toNat it tt (lf - sl) = -1
                        · rw [if_pos hV] at hcd; omega
                        · rw [if_neg hV] at hcd; omega
                      refine lv_istore (lv' := [(5, iv tt), (6, iv (lf - sl)), (3, iv (bv - (sl * (x 1 it)))), (9, iv sl), (0, .ref (b 0)), (1, iv i), (2, iv wk), (4, iv it), (7, iv nw), (8, iv sp)]) hx hb dX4_planned_192 hl (by decide) rfl (fun ls hl => ?_)
                      refine i_iinc (n := 1) (lv' := [(7, iv (nw + 1)), (5, iv tt), (6, iv (lf - sl)), (3, iv (bv - (sl * (x 1 it)))), (9, iv sl), (0, .ref (b 0)), (1, iv i), (2, iv wk), (4, iv it), (8, iv sp)]) hx hb dX4_planned_194 hl (k := 8) rfl (by decide) rfl (fun ls hl => ?_)
                      refine lv_goto (tgt := 74) hx hb dX4_planned_197 (by decide) ?_
                      exact ih_74 (nw + 1) it tt (lf - sl) (bv - (sl * (x 1 it))) (by omega) (by omega) (ht4) (by omega) (hpn) (hbn) (by omega) ls (lv_sub hl [5, 6, 7, 3, 8, 1, 2, 0] rfl)
                    refine i_icmp_le (tgt := 179) hx hb ⟨by omega, by omega⟩ ⟨by omega, by omega⟩ dX4_planned_167 (by decide) (fun c_10 => ?_) (fun c_10 => ?_)
                    · skip
                      refine lv_iload hx hb dX4_planned_179 (lv_at hl 7 rfl) ?_
                      refine i_if_le (tgt := 191) hx hb ⟨by omega, by omega⟩ dX4_planned_181 (by decide) (fun c_11 => ?_) (fun c_11 => ?_)
                      · skip
                        refine lv_iconst (v := zI 0) hx hb dX4_planned_191 rfl ?_
                        exact J_192 0 (by omega) (by omega) ls (lv_sub hl [0, 1, 2, 3, 4, 5, 6, 7, 8, 9] rfl)
                      · skip
                        refine lv_iload hx hb dX4_planned_184 (lv_at hl 7 rfl) ?_
                        refine lv_iconst (v := zI 1) hx hb dX4_planned_186 rfl ?_
                        refine i_isub hx hb dX4_planned_187 ?_
                        refine lv_goto (tgt := 192) hx hb dX4_planned_188 (by decide) ?_
                        exact J_192 (w - 1) (by omega) (by omega) ls (lv_sub hl [0, 1, 2, 3, 4, 5, 6, 7, 8, 9] rfl)
                    · skip
                      refine lv_aload_n hx hb dX4_planned_170 rfl (lv_at hl 3 rfl) ?_
                      refine va_get (D := D) (ci := 4) (v := iv (x 0 2)) (C := RX4) (T := TX4) (N := 14) hx hb hts inX4 hown hK hP 1 rfl rfl 4 (by decide) w5 (fun _ h9 => h9) rfl dX4_planned_171 ?_
                      refine lv_iconst (v := zI 1) hx hb dX4_planned_174 rfl ?_
                      refine i_isub hx hb dX4_planned_175 ?_
                      refine lv_goto (tgt := 192) hx hb dX4_planned_176 (by decide) ?_
                      exact J_192 ((x 0 2) - 1) (by omega) (by omega) ls (lv_sub hl [0, 1, 2, 3, 4, 5, 6, 7, 8, 9] rfl)
                  refine i_icmp_ge (tgt := 139) hx hb ⟨by omega, by omega⟩ ⟨by omega, by omega⟩ dX4_planned_122 (by decide) (fun c_12 => ?_) (fun c_12 => ?_)
                  · skip
                    refine lv_iload hx hb dX4_planned_139 (lv_at hl 6 rfl) ?_
                    exact J_141 lf (by omega) ls (lv_sub hl [0, 1, 2, 3, 4, 5, 6, 7, 8] rfl)
                  · skip
                    refine lv_aload_n hx hb dX4_planned_125 rfl (lv_at hl 0 rfl) ?_
                    refine va_get (D := D) (ci := 4) (v := .ref (b 2)) (C := RX4) (T := TX4) (N := 14) hx hb hts inX4 hown hK hP 1 rfl rfl 3 (by decide) w3 (fun _ h9 => h9) rfl dX4_planned_126 ?_
                    refine lv_iconst (v := zI 5) hx hb dX4_planned_129 rfl ?_
                    refine lv_iload_n hx hb dX4_planned_130 rfl (lv_at hl 1 rfl) ?_
                    refine i_imul hx hb dX4_planned_131 ?_
                    refine lv_iload hx hb dX4_planned_132 (lv_at hl 4 rfl) ?_
                    refine i_iadd hx hb dX4_planned_134 ?_
                    refine i_iald hx hb hK hP 3 0 rfl rfl (by omega) (by omega) (by decide) dX4_planned_135 ?_
                    refine lv_goto (tgt := 141) hx hb dX4_planned_136 (by decide) ?_
                    exact J_141 (x 2 ((5 * i) + it)) (by omega) ls (lv_sub hl [0, 1, 2, 3, 4, 5, 6, 7, 8] rfl)
                · skip
                  refine i_iinc (n := 1) (lv' := [(4, iv (it + 1)), (0, .ref (b 0)), (1, iv i), (2, iv wk), (3, iv bv), (5, iv w), (6, iv lf), (7, iv nw), (8, iv sp)]) hx hb dX4_planned_103 hl (k := 4) rfl (by decide) rfl (fun ls hl => ?_)
                  refine lv_goto (tgt := 84) hx hb dX4_planned_106 (by decide) ?_
                  exact ih_84 (it + 1) (by rcases (show it < i9 ∨ it = i9 by omega) with h | h; omega; exact absurd (show cv = bv by rw [hcv, h]; exact z3) (by assumption)) (fun j q1 q2 => by rcases (show j < it ∨ j = it by omega) with h | h; exact hno j q1 h; rw [h, ← hcv]; assumption) (by omega) ls (lv_sub hl [1, 2, 3, 4, 0, 5, 6, 7, 8] rfl)
            exact J_84 _ sp (by omega) (fun j q1 q2 => by omega) (Nat.lt_succ_self _) ls (lv_sub hl [1, 2, 3, 4, 5, 6, 7, 8, 0] rfl)
      exact J_74 _ (x 0 1) (x 4 i) (wtv ((x 5 i)) (x 0 2) (x 0 1)) (whl (fun z : Int => (x 3 (3 * i + z)))) (pv (x 1) (fun z : Int => (x 2 (5 * i + z))) (x 0 2) (x 0 3) 60 ((x 0 0) - (x 0 1)).toNat ((x 4 i)) (wtv ((x 5 i)) (x 0 2) (x 0 1)) (whl (fun z : Int => (x 3 (3 * i + z))))) (by omega) (hx4 i (by omega) (by omega)) (by have h9 : 0 ≤ wtv (x 5 i) (x 0 2) (x 0 1) ∧ wtv (x 5 i) (x 0 2) (x 0 1) ≤ x 0 2 := wtx_in hI ⟨by omega, by omega⟩; omega) (ix_wh hI ⟨by omega, by omega⟩) (by rw [show (x 0 1 - x 0 1).toNat = 0 by omega]; rfl) (rfl) (Nat.lt_succ_self _) ls (lv_sub hl [5, 6, 7, 4, 3, 2, 1, 0] rfl)
    · skip
      refine i_eqz (y := 0) (if_neg c_3) ?_
      refine i_if_eq (tgt := 29) hx hb ⟨by decide, by decide⟩ dX4_planned_22 (by decide) (fun c_13 => ?_) (fun c_13 => absurd (by decide) c_13)
      refine lv_iconst (v := zI 0) hx hb dX4_planned_29 rfl ?_
      refine ms_M (wc := [(b 0, ob 4 [iv (x 0 0), iv (x 0 1), .ref (b 1), .ref (b 2), iv (x 0 2), iv (x 0 3), iv (x 0 4), .ref (b 3), .ref (b 4), .ref (b 5), .ref (b 6), iv (x 0 5), .ref (b 7), iv th])]) (wr := [(b 1, ar cI 5 (x 1)), (b 2, ar cI 15 (x 2)), (b 3, ar cI 9 (x 3)), (b 4, ar cI 3 (x 4)), (b 5, ar cI 3 (x 5)), (b 6, ar cI 3 (x 6)), (b 7, ar cI 16775 wt)]) (va_runV (As := [iv 0]) (rest := []) ⟨hx, hb, hml, hown, hts⟩ ((mt_X4_asked1_0 l D cI cS cJ (b 0) (b 1) (b 2) (b 3) (b 4) (b 5) (b 6) (b 7) (x 0 0) (x 0 1) (x 0 2) (x 0 3) (x 0 4) (x 0 5) th) s.heap.size) (cwV 1 hts gX4_planned_X4_asked rfl rfl rfl (by decide +kernel) ⟨Nat.le_of_ble_eq_true rfl, Nat.le_of_ble_eq_true rfl⟩) (pc_V (ci := 4) (q0 := 0) hK (hP.sub (ws' := [(b 0, ob 4 [iv (x 0 0), iv (x 0 1), .ref (b 1), .ref (b 2), iv (x 0 2), iv (x 0 3), iv (x 0 4), .ref (b 3), .ref (b 4), .ref (b 5), .ref (b 6), iv (x 0 5), .ref (b 7), iv th])]) [0] rfl) rfl rfl (pcM_S hE hK (hP.sub (ws' := [(b 0, ob 4 [iv (x 0 0), iv (x 0 1), .ref (b 1), .ref (b 2), iv (x 0 2), iv (x 0 3), iv (x 0 4), .ref (b 3), .ref (b 4), .ref (b 5), .ref (b 6), iv (x 0 5), .ref (b 7), iv th])]) [0] rfl) (hD.sub (ws' := [(b 0, ob 4 [iv (x 0 0), iv (x 0 1), .ref (b 1), .ref (b 2), iv (x 0 2), iv (x 0 3), iv (x 0 4), .ref (b 3), .ref (b 4), .ref (b 5), .ref (b 6), iv (x 0 5), .ref (b 7), iv th])]) [0] (by decide) rfl))) rfl rfl hl.1 rfl (lv_room (Nat.le_of_ble_eq_true rfl)) dX4_planned_30 ⟨Nat.le_of_ble_eq_true rfl, Nat.le_of_ble_eq_true rfl⟩) hP hD hS hA [0] [1, 2, 3, 4, 5, 6, 7] rfl rfl (by decide) (by decide) (fun r_ w_ H locs hq_ hP hD hS => ?_)
      obtain ⟨rfl, rfl⟩ := hq_
      have hP : va_P D vwCl [(b 1, ar cI 5 (x 1)), (b 2, ar cI 15 (x 2)), (b 3, ar cI 9 (x 3)), (b 4, ar cI 3 (x 4)), (b 5, ar cI 3 (x 5)), (b 6, ar cI 3 (x 6)), (b 7, ar cI 16775 wt), (b 0, ob 4 [iv (x 0 0), iv (x 0 1), .ref (b 1), .ref (b 2), iv (x 0 2), iv (x 0 3), iv (x 0 4), .ref (b 3), .ref (b 4), .ref (b 5), .ref (b 6), iv (x 0 5), .ref (b 7), iv 1])] H := hP
      have hD : va_D A [(b 1, ar cI 5 (x 1)), (b 2, ar cI 15 (x 2)), (b 3, ar cI 9 (x 3)), (b 4, ar cI 3 (x 4)), (b 5, ar cI 3 (x 5)), (b 6, ar cI 3 (x 6)), (b 7, ar cI 16775 wt), (b 0, ob 4 [iv (x 0 0), iv (x 0 1), .ref (b 1), .ref (b 2), iv (x 0 2), iv (x 0 3), iv (x 0 4), .ref (b 3), .ref (b 4), .ref (b 5), .ref (b 6), iv (x 0 5), .ref (b 7), iv 1])] := hD
      refine i_if_ne (tgt := 38) hx hb ⟨by decide, by decide⟩ dX4_planned_33 (by decide) (fun c_14 => absurd (by decide) c_14) (fun c_14 => ?_)
      refine lv_iconst (v := zI 0) hx hb dX4_planned_36 rfl ?_
      subst hQ
      exact r_Mi hx hb hr hlocks (by first | rfl | decide) dX4_planned_37 hS (hP.sub (ws' := [(b 0, ob 4 [iv (x 0 0), iv (x 0 1), .ref (b 1), .ref (b 2), iv (x 0 2), iv (x 0 3), iv (x 0 4), .ref (b 3), .ref (b 4), .ref (b 5), .ref (b 6), iv (x 0 5), .ref (b 7), iv 1]), (b 1, ar cI 5 (x 1)), (b 2, ar cI 15 (x 2)), (b 3, ar cI 9 (x 3)), (b 4, ar cI 3 (x 4)), (b 5, ar cI 3 (x 5)), (b 6, ar cI 3 (x 6)), (b 7, ar cI 16775 wt)]) [7, 0, 1, 2, 3, 4, 5, 6] rfl) (hD.sub (ws' := [(b 0, ob 4 [iv (x 0 0), iv (x 0 1), .ref (b 1), .ref (b 2), iv (x 0 2), iv (x 0 3), iv (x 0 4), .ref (b 3), .ref (b 4), .ref (b 5), .ref (b 6), iv (x 0 5), .ref (b 7), iv 1]), (b 1, ar cI 5 (x 1)), (b 2, ar cI 15 (x 2)), (b 3, ar cI 9 (x 3)), (b 4, ar cI 3 (x 4)), (b 5, ar cI 3 (x 5)), (b 6, ar cI 3 (x 6)), (b 7, ar cI 16775 wt)]) [7, 0, 1, 2, 3, 4, 5, 6] (by decide) rfl) (⟨0, 1, x, wt, (Or.inr (Or.inl ⟨by omega, rfl, rfl⟩)), rfl, rfl⟩) (Nat.le_of_ble_eq_true rfl) (Nat.le_of_ble_eq_true rfl)
  · skip
    refine i_eqz (y := 0) (if_neg c_1) ?_
    refine i_if_eq (tgt := 29) hx hb ⟨by decide, by decide⟩ dX4_planned_5 (by decide) (fun c_15 => ?_) (fun c_15 => absurd (by decide) c_15)
    refine lv_iconst (v := zI 0) hx hb dX4_planned_29 rfl ?_
    refine ms_M (wc := [(b 0, ob 4 [iv (x 0 0), iv (x 0 1), .ref (b 1), .ref (b 2), iv (x 0 2), iv (x 0 3), iv (x 0 4), .ref (b 3), .ref (b 4), .ref (b 5), .ref (b 6), iv (x 0 5), .ref (b 7), iv th])]) (wr := [(b 1, ar cI 5 (x 1)), (b 2, ar cI 15 (x 2)), (b 3, ar cI 9 (x 3)), (b 4, ar cI 3 (x 4)), (b 5, ar cI 3 (x 5)), (b 6, ar cI 3 (x 6)), (b 7, ar cI 16775 wt)]) (va_runV (As := [iv 0]) (rest := []) ⟨hx, hb, hml, hown, hts⟩ ((mt_X4_asked1_0 l D cI cS cJ (b 0) (b 1) (b 2) (b 3) (b 4) (b 5) (b 6) (b 7) (x 0 0) (x 0 1) (x 0 2) (x 0 3) (x 0 4) (x 0 5) th) s.heap.size) (cwV 1 hts gX4_planned_X4_asked rfl rfl rfl (by decide +kernel) ⟨Nat.le_of_ble_eq_true rfl, Nat.le_of_ble_eq_true rfl⟩) (pc_V (ci := 4) (q0 := 0) hK (hP.sub (ws' := [(b 0, ob 4 [iv (x 0 0), iv (x 0 1), .ref (b 1), .ref (b 2), iv (x 0 2), iv (x 0 3), iv (x 0 4), .ref (b 3), .ref (b 4), .ref (b 5), .ref (b 6), iv (x 0 5), .ref (b 7), iv th])]) [0] rfl) rfl rfl (pcM_S hE hK (hP.sub (ws' := [(b 0, ob 4 [iv (x 0 0), iv (x 0 1), .ref (b 1), .ref (b 2), iv (x 0 2), iv (x 0 3), iv (x 0 4), .ref (b 3), .ref (b 4), .ref (b 5), .ref (b 6), iv (x 0 5), .ref (b 7), iv th])]) [0] rfl) (hD.sub (ws' := [(b 0, ob 4 [iv (x 0 0), iv (x 0 1), .ref (b 1), .ref (b 2), iv (x 0 2), iv (x 0 3), iv (x 0 4), .ref (b 3), .ref (b 4), .ref (b 5), .ref (b 6), iv (x 0 5), .ref (b 7), iv th])]) [0] (by decide) rfl))) rfl rfl hl.1 rfl (lv_room (Nat.le_of_ble_eq_true rfl)) dX4_planned_30 ⟨Nat.le_of_ble_eq_true rfl, Nat.le_of_ble_eq_true rfl⟩) hP hD hS hA [0] [1, 2, 3, 4, 5, 6, 7] rfl rfl (by decide) (by decide) (fun r_ w_ H locs hq_ hP hD hS => ?_)
    obtain ⟨rfl, rfl⟩ := hq_
    have hP : va_P D vwCl [(b 1, ar cI 5 (x 1)), (b 2, ar cI 15 (x 2)), (b 3, ar cI 9 (x 3)), (b 4, ar cI 3 (x 4)), (b 5, ar cI 3 (x 5)), (b 6, ar cI 3 (x 6)), (b 7, ar cI 16775 wt), (b 0, ob 4 [iv (x 0 0), iv (x 0 1), .ref (b 1), .ref (b 2), iv (x 0 2), iv (x 0 3), iv (x 0 4), .ref (b 3), .ref (b 4), .ref (b 5), .ref (b 6), iv (x 0 5), .ref (b 7), iv 1])] H := hP
    have hD : va_D A [(b 1, ar cI 5 (x 1)), (b 2, ar cI 15 (x 2)), (b 3, ar cI 9 (x 3)), (b 4, ar cI 3 (x 4)), (b 5, ar cI 3 (x 5)), (b 6, ar cI 3 (x 6)), (b 7, ar cI 16775 wt), (b 0, ob 4 [iv (x 0 0), iv (x 0 1), .ref (b 1), .ref (b 2), iv (x 0 2), iv (x 0 3), iv (x 0 4), .ref (b 3), .ref (b 4), .ref (b 5), .ref (b 6), iv (x 0 5), .ref (b 7), iv 1])] := hD
    refine i_if_ne (tgt := 38) hx hb ⟨by decide, by decide⟩ dX4_planned_33 (by decide) (fun c_16 => absurd (by decide) c_16) (fun c_16 => ?_)
    refine lv_iconst (v := zI 0) hx hb dX4_planned_36 rfl ?_
    subst hQ
    exact r_Mi hx hb hr hlocks (by first | rfl | decide) dX4_planned_37 hS (hP.sub (ws' := [(b 0, ob 4 [iv (x 0 0), iv (x 0 1), .ref (b 1), .ref (b 2), iv (x 0 2), iv (x 0 3), iv (x 0 4), .ref (b 3), .ref (b 4), .ref (b 5), .ref (b 6), iv (x 0 5), .ref (b 7), iv 1]), (b 1, ar cI 5 (x 1)), (b 2, ar cI 15 (x 2)), (b 3, ar cI 9 (x 3)), (b 4, ar cI 3 (x 4)), (b 5, ar cI 3 (x 5)), (b 6, ar cI 3 (x 6)), (b 7, ar cI 16775 wt)]) [7, 0, 1, 2, 3, 4, 5, 6] rfl) (hD.sub (ws' := [(b 0, ob 4 [iv (x 0 0), iv (x 0 1), .ref (b 1), .ref (b 2), iv (x 0 2), iv (x 0 3), iv (x 0 4), .ref (b 3), .ref (b 4), .ref (b 5), .ref (b 6), iv (x 0 5), .ref (b 7), iv 1]), (b 1, ar cI 5 (x 1)), (b 2, ar cI 15 (x 2)), (b 3, ar cI 9 (x 3)), (b 4, ar cI 3 (x 4)), (b 5, ar cI 3 (x 5)), (b 6, ar cI 3 (x 6)), (b 7, ar cI 16775 wt)]) [7, 0, 1, 2, 3, 4, 5, 6] (by decide) rfl) (⟨0, 1, x, wt, (Or.inr (Or.inl ⟨by omega, rfl, rfl⟩)), rfl, rfl⟩) (Nat.le_of_ble_eq_true rfl) (Nat.le_of_ble_eq_true rfl)
