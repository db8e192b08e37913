abbrev rm_X4_run : Room := { frames := 2, cells := 0, slots := 0, locals := 45 }
set_option maxHeartbeats 4000000 in
set_option maxRecDepth 100000 in
theorem mt_X4_run (l : Launch) (D : va_G) (cI cS cJ : ClassId) (b : Nat → Nat) (x : Nat → Int → Int) (th : Int) (wt : Int → Int) (hI : IX x) : cM l yX4_run wsX4_run rm_X4_run [.ref (b 0)] D (tyL cI cS cJ) [(b 0, ob 4 [iv (x 0 0), iv (x 0 1), .ref (b 1), .ref (b 2), iv (x 0 2), iv (x 0 3), iv (x 0 4), .ref (b 3), .ref (b 4), .ref (b 5), .ref (b 6), iv (x 0 5), .ref (b 7), iv th]), (b 1, ar cI 5 (x 1)), (b 2, ar cI 15 (x 2)), (b 3, ar cI 9 (x 3)), (b 4, ar cI 3 (x 4)), (b 5, ar cI 3 (x 5)), (b 6, ar cI 3 (x 6)), (b 7, ar cI 16775 wt)] (fun r_ w_ => ∃ rv : Int, ∃ th2 : Int, ∃ x2 : Nat → Int → Int, (OUT (x 0 1 < x 0 0) (True) th2 rv (tkx x 0 + tkx x 1 + tkx x 2) x2 (x_run x) x) ∧ r_ = some (iv rv) ∧ w_ = [(b 0, ob 4 [iv (x2 0 0), iv (x2 0 1), .ref (b 1), .ref (b 2), iv (x2 0 2), iv (x2 0 3), iv (x2 0 4), .ref (b 3), .ref (b 4), .ref (b 5), .ref (b 6), iv (x2 0 5), .ref (b 7), iv th2]), (b 1, ar cI 5 (x2 1)), (b 2, ar cI 15 (x2 2)), (b 3, ar cI 9 (x2 3)), (b 4, ar cI 3 (x2 4)), (b 5, ar cI 3 (x2 5)), (b 6, ar cI 3 (x2 6)), (b 7, ar cI 16775 wt)]) 0 0 := by
  refine en_M (cc := cX4_run) (maxL := 6) (ret := (some .int)) (by decide) rfl (Nat.le_of_ble_eq_true rfl) ?_
  intro p e s m args below meth c ls A hX hE hP hK hD hS hA hl Q hQ
  obtain ⟨hx, hb, hr, hml, hts, hown, hlocks, hnm⟩ := hX
  have hown : s.vm.findClass RX4 = some m.cls := hown
  have hl : lv_has ls 6 [(0, .ref (b 0))] := hl
  have inX4 : ∀ w ∈ u_ws RX4 TX4 14, w ∈ wsX4_run := by decide +kernel
  have w0 : (Cond.fieldLink RX4 49 RX4 "week" "I").before args s = true := hts _ (by decide +kernel)
  have w1 : (Cond.fieldLink RX4 7 RX4 "weeks" "I").before args s = true := hts _ (by decide +kernel)
  have w2 : (Cond.fieldLink RX4 26 RX4 "step" "[I").before args s = true := hts _ (by decide +kernel)
  have w3 : (Cond.fieldLink RX4 32 RX4 "sold" "[I").before args s = true := hts _ (by decide +kernel)
  have w4 : (Cond.fieldLink RX4 13 RX4 "price" "[I").before args s = true := hts _ (by decide +kernel)
  have w5 : (Cond.fieldLink RX4 52 RX4 "taken" "I").before args s = true := hts _ (by decide +kernel)
  have w6 : (Cond.fieldLink RX4 23 RX4 "stock" "[I").before args s = true := hts _ (by decide +kernel)
  obtain ⟨hx00, hx01, hx02, hx03, hx04, hx1, hx2, hx3, hx4, hx5⟩ := id hI
  refine lv_aload_n hx hb dX4_run_0 rfl (lv_at hl 0 rfl) ?_
  refine lv_aload_n hx hb dX4_run_1 rfl (lv_at hl 0 rfl) ?_
  refine va_get (D := D) (ci := 4) (v := iv (x 0 1)) (C := RX4) (T := TX4) (N := 14) hx hb hts inX4 hown hK hP 0 rfl rfl 1 (by decide) w0 (fun _ h9 => h9) rfl dX4_run_2 ?_
  refine lv_aload_n hx hb dX4_run_5 rfl (lv_at hl 0 rfl) ?_
  refine va_get (D := D) (ci := 4) (v := iv (x 0 0)) (C := RX4) (T := TX4) (N := 14) hx hb hts inX4 hown hK hP 0 rfl rfl 0 (by decide) w1 (fun _ h9 => h9) rfl dX4_run_6 ?_
  refine i_icmp_ge (tgt := 16) hx hb ⟨by omega, by omega⟩ ⟨by omega, by omega⟩ dX4_run_9 (by decide) (fun c_1 => ?_) (fun c_1 => ?_)
  · skip
    refine lv_iconst (v := zI 0) hx hb dX4_run_16 rfl ?_
    refine ms_M (wc := [(b 0, ob 4 [iv (x 0 0), iv (x 0 1), .ref (b 1), .ref (b 2), iv (x 0 2), iv (x 0 3), iv (x 0 4), .ref (b 3), .ref (b 4), .ref (b 5), .ref (b 6), iv (x 0 5), .ref (b 7), iv th])]) (wr := [(b 1, ar cI 5 (x 1)), (b 2, ar cI 15 (x 2)), (b 3, ar cI 9 (x 3)), (b 4, ar cI 3 (x 4)), (b 5, ar cI 3 (x 5)), (b 6, ar cI 3 (x 6)), (b 7, ar cI 16775 wt)]) (va_runV (As := [iv 0]) (rest := []) ⟨hx, hb, hml, hown, hts⟩ ((mt_X4_asked1_0 l D cI cS cJ (b 0) (b 1) (b 2) (b 3) (b 4) (b 5) (b 6) (b 7) (x 0 0) (x 0 1) (x 0 2) (x 0 3) (x 0 4) (x 0 5) th) s.heap.size) (cwV 1 hts gX4_run_X4_asked rfl rfl rfl (by decide +kernel) ⟨Nat.le_of_ble_eq_true rfl, Nat.le_of_ble_eq_true rfl⟩) (pc_V (ci := 4) (q0 := 0) hK (hP.sub (ws' := [(b 0, ob 4 [iv (x 0 0), iv (x 0 1), .ref (b 1), .ref (b 2), iv (x 0 2), iv (x 0 3), iv (x 0 4), .ref (b 3), .ref (b 4), .ref (b 5), .ref (b 6), iv (x 0 5), .ref (b 7), iv th])]) [0] rfl) rfl rfl (pcM_S hE hK (hP.sub (ws' := [(b 0, ob 4 [iv (x 0 0), iv (x 0 1), .ref (b 1), .ref (b 2), iv (x 0 2), iv (x 0 3), iv (x 0 4), .ref (b 3), .ref (b 4), .ref (b 5), .ref (b 6), iv (x 0 5), .ref (b 7), iv th])]) [0] rfl) (hD.sub (ws' := [(b 0, ob 4 [iv (x 0 0), iv (x 0 1), .ref (b 1), .ref (b 2), iv (x 0 2), iv (x 0 3), iv (x 0 4), .ref (b 3), .ref (b 4), .ref (b 5), .ref (b 6), iv (x 0 5), .ref (b 7), iv th])]) [0] (by decide) rfl))) rfl rfl hl.1 rfl (lv_room (Nat.le_of_ble_eq_true rfl)) dX4_run_17 ⟨Nat.le_of_ble_eq_true rfl, Nat.le_of_ble_eq_true rfl⟩) hP hD hS hA [0] [1, 2, 3, 4, 5, 6, 7] rfl rfl (by decide) (by decide) (fun r_ w_ H locs hq_ hP hD hS => ?_)
    obtain ⟨rfl, rfl⟩ := hq_
    have hP : va_P D vwCl [(b 1, ar cI 5 (x 1)), (b 2, ar cI 15 (x 2)), (b 3, ar cI 9 (x 3)), (b 4, ar cI 3 (x 4)), (b 5, ar cI 3 (x 5)), (b 6, ar cI 3 (x 6)), (b 7, ar cI 16775 wt), (b 0, ob 4 [iv (x 0 0), iv (x 0 1), .ref (b 1), .ref (b 2), iv (x 0 2), iv (x 0 3), iv (x 0 4), .ref (b 3), .ref (b 4), .ref (b 5), .ref (b 6), iv (x 0 5), .ref (b 7), iv 1])] H := hP
    have hD : va_D A [(b 1, ar cI 5 (x 1)), (b 2, ar cI 15 (x 2)), (b 3, ar cI 9 (x 3)), (b 4, ar cI 3 (x 4)), (b 5, ar cI 3 (x 5)), (b 6, ar cI 3 (x 6)), (b 7, ar cI 16775 wt), (b 0, ob 4 [iv (x 0 0), iv (x 0 1), .ref (b 1), .ref (b 2), iv (x 0 2), iv (x 0 3), iv (x 0 4), .ref (b 3), .ref (b 4), .ref (b 5), .ref (b 6), iv (x 0 5), .ref (b 7), iv 1])] := hD
    refine i_if_ne (tgt := 25) hx hb ⟨by decide, by decide⟩ dX4_run_20 (by decide) (fun c_2 => absurd (by decide) c_2) (fun c_2 => ?_)
    refine lv_iconst (v := zI 0) hx hb dX4_run_23 rfl ?_
    subst hQ
    exact r_Mi hx hb hr hlocks (by first | rfl | decide) dX4_run_24 hS (hP.sub (ws' := [(b 0, ob 4 [iv (x 0 0), iv (x 0 1), .ref (b 1), .ref (b 2), iv (x 0 2), iv (x 0 3), iv (x 0 4), .ref (b 3), .ref (b 4), .ref (b 5), .ref (b 6), iv (x 0 5), .ref (b 7), iv 1]), (b 1, ar cI 5 (x 1)), (b 2, ar cI 15 (x 2)), (b 3, ar cI 9 (x 3)), (b 4, ar cI 3 (x 4)), (b 5, ar cI 3 (x 5)), (b 6, ar cI 3 (x 6)), (b 7, ar cI 16775 wt)]) [7, 0, 1, 2, 3, 4, 5, 6] rfl) (hD.sub (ws' := [(b 0, ob 4 [iv (x 0 0), iv (x 0 1), .ref (b 1), .ref (b 2), iv (x 0 2), iv (x 0 3), iv (x 0 4), .ref (b 3), .ref (b 4), .ref (b 5), .ref (b 6), iv (x 0 5), .ref (b 7), iv 1]), (b 1, ar cI 5 (x 1)), (b 2, ar cI 15 (x 2)), (b 3, ar cI 9 (x 3)), (b 4, ar cI 3 (x 4)), (b 5, ar cI 3 (x 5)), (b 6, ar cI 3 (x 6)), (b 7, ar cI 16775 wt)]) [7, 0, 1, 2, 3, 4, 5, 6] (by decide) rfl) (⟨0, 1, x, (Or.inr (Or.inl ⟨by omega, rfl, rfl⟩)), rfl, rfl⟩) (Nat.le_of_ble_eq_true rfl) (Nat.le_of_ble_eq_true rfl)
  · skip
    refine lv_iconst (v := zI 1) hx hb dX4_run_12 rfl ?_
    refine lv_goto (tgt := 17) hx hb dX4_run_13 (by decide) ?_
    refine ms_M (wc := [(b 0, ob 4 [iv (x 0 0), iv (x 0 1), .ref (b 1), .ref (b 2), iv (x 0 2), iv (x 0 3), iv (x 0 4), .ref (b 3), .ref (b 4), .ref (b 5), .ref (b 6), iv (x 0 5), .ref (b 7), iv th])]) (wr := [(b 1, ar cI 5 (x 1)), (b 2, ar cI 15 (x 2)), (b 3, ar cI 9 (x 3)), (b 4, ar cI 3 (x 4)), (b 5, ar cI 3 (x 5)), (b 6, ar cI 3 (x 6)), (b 7, ar cI 16775 wt)]) (va_runV (As := [iv 1]) (rest := []) ⟨hx, hb, hml, hown, hts⟩ ((mt_X4_asked1_1 l D cI cS cJ (b 0) (b 1) (b 2) (b 3) (b 4) (b 5) (b 6) (b 7) (x 0 0) (x 0 1) (x 0 2) (x 0 3) (x 0 4) (x 0 5) th) s.heap.size) (cwV 1 hts gX4_run_X4_asked rfl rfl rfl (by decide +kernel) ⟨Nat.le_of_ble_eq_true rfl, Nat.le_of_ble_eq_true rfl⟩) (pc_V (ci := 4) (q0 := 0) hK (hP.sub (ws' := [(b 0, ob 4 [iv (x 0 0), iv (x 0 1), .ref (b 1), .ref (b 2), iv (x 0 2), iv (x 0 3), iv (x 0 4), .ref (b 3), .ref (b 4), .ref (b 5), .ref (b 6), iv (x 0 5), .ref (b 7), iv th])]) [0] rfl) rfl rfl (pcM_S hE hK (hP.sub (ws' := [(b 0, ob 4 [iv (x 0 0), iv (x 0 1), .ref (b 1), .ref (b 2), iv (x 0 2), iv (x 0 3), iv (x 0 4), .ref (b 3), .ref (b 4), .ref (b 5), .ref (b 6), iv (x 0 5), .ref (b 7), iv th])]) [0] rfl) (hD.sub (ws' := [(b 0, ob 4 [iv (x 0 0), iv (x 0 1), .ref (b 1), .ref (b 2), iv (x 0 2), iv (x 0 3), iv (x 0 4), .ref (b 3), .ref (b 4), .ref (b 5), .ref (b 6), iv (x 0 5), .ref (b 7), iv th])]) [0] (by decide) rfl))) rfl rfl hl.1 rfl (lv_room (Nat.le_of_ble_eq_true rfl)) dX4_run_17 ⟨Nat.le_of_ble_eq_true rfl, Nat.le_of_ble_eq_true rfl⟩) hP hD hS hA [0] [1, 2, 3, 4, 5, 6, 7] rfl rfl (by decide) (by decide) (fun r_ w_ H locs hq_ hP hD hS => ?_)
    obtain ⟨rfl, rfl⟩ := hq_
    have hP : va_P D vwCl [(b 1, ar cI 5 (x 1)), (b 2, ar cI 15 (x 2)), (b 3, ar cI 9 (x 3)), (b 4, ar cI 3 (x 4)), (b 5, ar cI 3 (x 5)), (b 6, ar cI 3 (x 6)), (b 7, ar cI 16775 wt), (b 0, ob 4 [iv (x 0 0), iv (x 0 1), .ref (b 1), .ref (b 2), iv (x 0 2), iv (x 0 3), iv (x 0 4), .ref (b 3), .ref (b 4), .ref (b 5), .ref (b 6), iv (x 0 5), .ref (b 7), iv 0])] H := hP
    have hD : va_D A [(b 1, ar cI 5 (x 1)), (b 2, ar cI 15 (x 2)), (b 3, ar cI 9 (x 3)), (b 4, ar cI 3 (x 4)), (b 5, ar cI 3 (x 5)), (b 6, ar cI 3 (x 6)), (b 7, ar cI 16775 wt), (b 0, ob 4 [iv (x 0 0), iv (x 0 1), .ref (b 1), .ref (b 2), iv (x 0 2), iv (x 0 3), iv (x 0 4), .ref (b 3), .ref (b 4), .ref (b 5), .ref (b 6), iv (x 0 5), .ref (b 7), iv 0])] := hD
    refine i_if_ne (tgt := 25) hx hb ⟨by decide, by decide⟩ dX4_run_20 (by decide) (fun c_3 => ?_) (fun c_3 => absurd c_3 (by decide))
    refine lv_iconst (v := zI 0) hx hb dX4_run_25 rfl ?_
    refine lv_istore_n (lv' := [(1, iv 0), (0, .ref (b 0))]) hx hb dX4_run_26 rfl hl (by decide) rfl (fun ls hl => ?_)
    refine lv_iconst (v := zI 0) hx hb dX4_run_27 rfl ?_
    refine lv_istore_n (lv' := [(2, iv 0), (1, iv 0), (0, .ref (b 0))]) hx hb dX4_run_28 rfl hl (by decide) rfl (fun ls hl => ?_)
    refine lv_iload_n hx hb dX4_run_29 rfl (lv_at hl 0 rfl) ?_
    refine lv_iconst (v := zI 3) hx hb dX4_run_30 rfl ?_
    refine i_icmp_ge (tgt := 173) hx hb ⟨by decide, by decide⟩ ⟨by decide, by decide⟩ dX4_run_31 (by decide) (fun c_4 => absurd c_4 (by decide)) (fun c_4 => ?_)
    refine lv_aload_n hx hb dX4_run_34 rfl (lv_at hl 2 rfl) ?_
    refine lv_iload_n hx hb dX4_run_35 rfl (lv_at hl 0 rfl) ?_
    refine lv_aload_n hx hb dX4_run_36 rfl (lv_at hl 2 rfl) ?_
    refine va_get (D := D) (ci := 4) (v := .ref (b 4)) (C := RX4) (T := TX4) (N := 14) hx hb hts inX4 hown hK hP 7 rfl rfl 8 (by decide) w2 (fun _ h9 => h9) rfl dX4_run_37 ?_
    refine lv_iload_n hx hb dX4_run_40 rfl (lv_at hl 0 rfl) ?_
    refine i_iald hx hb hK hP 3 0 rfl rfl (by decide) (by decide) (by decide) dX4_run_41 ?_
    have hp0 : ∀ c : Int, 0 ≤ c → c < 9 → (x 3) c = x 3 c := fun _ _ _ => rfl
    have hc0 : ∀ z : Int, 0 ≤ z → z < 3 → (fun z : Int => (x 3) (3 * 0 + z)) z = (skx x 0) z := fun z q1 q2 => hp0 (3 * 0 + z) (by omega) (by omega)
    obtain ⟨hs0n, hs0w⟩ := ix_sk hI (i := 0) (by decide)
    have hs0t := ix_st hI (i := 0) (by decide)
    refine ms_P (va_runV (As := [iv 0, iv (x 4 0)]) (rest := []) ⟨hx, hb, hml, hown, hts⟩ (mt_X4_sells l D cI cS cJ (b 0) (b 1) (b 2) (b 3) (b 4) (b 5) (b 6) (b 7) (x 0 0) (x 0 1) (x 0 2) (x 0 3) (x 0 4) (x 0 5) 0 (x 3) (x 2) 0 (x 4 0) (by omega) (hs0t) (hx2 0 (x 4 0) (by decide) (by decide) hs0t.1 hs0t.2) (nn3_congr hc0 hs0n) (by rw [whl_congr hc0]; exact hs0w)) (cwV 2 hts gX4_run_X4_sells rfl rfl rfl (by decide +kernel) ⟨Nat.le_of_ble_eq_true rfl, Nat.le_of_ble_eq_true rfl⟩) (pc_V (ci := 4) (q0 := 0) hK (hP.sub (ws' := [(b 0, ob 4 [iv (x 0 0), iv (x 0 1), .ref (b 1), .ref (b 2), iv (x 0 2), iv (x 0 3), iv (x 0 4), .ref (b 3), .ref (b 4), .ref (b 5), .ref (b 6), iv (x 0 5), .ref (b 7), iv 0]), (b 2, ar cI 15 (x 2)), (b 3, ar cI 9 (x 3))]) [7, 1, 2] rfl) rfl rfl (pcP_S hE hK (hP.sub (ws' := [(b 0, ob 4 [iv (x 0 0), iv (x 0 1), .ref (b 1), .ref (b 2), iv (x 0 2), iv (x 0 3), iv (x 0 4), .ref (b 3), .ref (b 4), .ref (b 5), .ref (b 6), iv (x 0 5), .ref (b 7), iv 0]), (b 2, ar cI 15 (x 2)), (b 3, ar cI 9 (x 3))]) [7, 1, 2] rfl))) rfl rfl hl.1 rfl (lv_room (Nat.le_of_ble_eq_true rfl)) dX4_run_42 ⟨Nat.le_of_ble_eq_true rfl, Nat.le_of_ble_eq_true rfl⟩) ?_
    refine i_name (fun m0 hm0 => ?_)
    have hms0 : m0 = slx x 0 := by first | (rw [hm0]; done) | (rw [hm0]; exact slv_congr hc0)
    have hmb0 : 0 ≤ m0 ∧ m0 ≤ whl (skx x 0) := by rw [hms0]; exact slv_in (hx2 0 (x 4 0) (by decide) (by decide) hs0t.1 hs0t.2).1 hs0n
    refine lv_istore_n (lv' := [(3, iv m0), (2, iv 0), (1, iv 0), (0, .ref (b 0))]) hx hb dX4_run_45 rfl hl (by decide) rfl (fun ls hl => ?_)
    refine lv_iconst (v := zI 0) hx hb dX4_run_46 rfl ?_
    refine lv_istore (lv' := [(4, iv 0), (3, iv m0), (2, iv 0), (1, iv 0), (0, .ref (b 0))]) hx hb dX4_run_47 hl (by decide) rfl (fun ls hl => ?_)
    have J_49 : ∀ (n_49 : Nat) (n0 : Nat) (sk0 : Int → Int) (hn0 : (n0 : Int) ≤ m0) (hv00 : sk0 0 = decn (skx x 0) n0 0) (hv01 : sk0 1 = decn (skx x 0) n0 1) (hv02 : sk0 2 = decn (skx x 0) n0 2) (ho0 : ∀ c : Int, 0 ≤ c → c < 9 → (c < 0 ∨ 2 < c) → sk0 c = (x 3) c) (hm_49 : ((m0 - n0).toNat) < n_49) (H : Heap) (locs : List Loc) (hP : va_P D vwCl [(b 1, ar cI 5 (x 1)), (b 2, ar cI 15 (x 2)), (b 3, ar cI 9 sk0), (b 4, ar cI 3 (x 4)), (b 5, ar cI 3 (x 5)), (b 6, ar cI 3 (x 6)), (b 7, ar cI 16775 wt), (b 0, ob 4 [iv (x 0 0), iv (x 0 1), .ref (b 1), .ref (b 2), iv (x 0 2), iv (x 0 3), iv (x 0 4), .ref (b 3), .ref (b 4), .ref (b 5), .ref (b 6), iv (x 0 5), .ref (b 7), iv 0])] H) (hD : va_D A [(b 1, ar cI 5 (x 1)), (b 2, ar cI 15 (x 2)), (b 3, ar cI 9 sk0), (b 4, ar cI 3 (x 4)), (b 5, ar cI 3 (x 5)), (b 6, ar cI 3 (x 6)), (b 7, ar cI 16775 wt), (b 0, ob 4 [iv (x 0 0), iv (x 0 1), .ref (b 1), .ref (b 2), iv (x 0 2), iv (x 0 3), iv (x 0 4), .ref (b 3), .ref (b 4), .ref (b 5), .ref (b 6), iv (x 0 5), .ref (b 7), iv 0])]) (hS : va_S A s.heap H locs) (ls : Array Slot) (hl : lv_has ls 6 [(4, iv (n0 : Int)), (3, iv m0), (2, iv 0), (1, iv 0), (0, .ref (b 0))]), W p l e rm_X4_run s m args below meth c H locs (0 + 0) (0 + 0) Q (F0 m 49 ls []) := by
      intro n_49
      induction n_49 with
      | zero => intro n0 sk0 hn0 hv00 hv01 hv02 ho0 hm_49 H locs hP hD hS ls hl; exact absurd hm_49 (Nat.not_lt_zero _)
      | succ n_49 ih_49 =>
        intro n0 sk0 hn0 hv00 hv01 hv02 ho0 hm_49 H locs hP hD hS ls hl
        refine lv_iload hx hb dX4_run_49 (lv_at hl 0 rfl) ?_
        refine lv_iload_n hx hb dX4_run_51 rfl (lv_at hl 1 rfl) ?_
        refine i_icmp_ge (tgt := 141) hx hb ⟨by omega, by omega⟩ ⟨by omega, by omega⟩ dX4_run_52 (by decide) (fun c_5 => ?_) (fun c_5 => ?_)
        · skip
          have he0 : n0 = (slx x 0).toNat := by rw [← hms0]; omega
          refine lv_aload_n hx hb dX4_run_141 rfl (lv_at hl 4 rfl) ?_
          refine va_get (D := D) (ci := 4) (v := .ref (b 6)) (C := RX4) (T := TX4) (N := 14) hx hb hts inX4 hown hK hP 7 rfl rfl 10 (by decide) w3 (fun _ h9 => h9) rfl dX4_run_142 ?_
          refine lv_iload_n hx hb dX4_run_145 rfl (lv_at hl 2 rfl) ?_
          refine lv_dup2_11 hx hb dX4_run_146 rfl rfl ?_
          refine i_iald hx hb hK hP 5 0 rfl rfl (by decide) (by decide) (by decide) dX4_run_147 ?_
          refine lv_iload_n hx hb dX4_run_148 rfl (lv_at hl 1 rfl) ?_
          refine i_iadd hx hb dX4_run_149 ?_
          refine i_iast hx hb hK hP hD hS 5 0 rfl rfl (by decide) (by decide) (by decide) dX4_run_150 (fun H locs hP hD hS => ?_)
          have hP : va_P D vwCl [(b 1, ar cI 5 (x 1)), (b 2, ar cI 15 (x 2)), (b 3, ar cI 9 sk0), (b 4, ar cI 3 (x 4)), (b 5, ar cI 3 (x 5)), (b 6, ar cI 3 (ui (x 6) 0 ((x 6 0) + m0))), (b 7, ar cI 16775 wt), (b 0, ob 4 [iv (x 0 0), iv (x 0 1), .ref (b 1), .ref (b 2), iv (x 0 2), iv (x 0 3), iv (x 0 4), .ref (b 3), .ref (b 4), .ref (b 5), .ref (b 6), iv (x 0 5), .ref (b 7), iv 0])] H := hP
          have hD : va_D A [(b 1, ar cI 5 (x 1)), (b 2, ar cI 15 (x 2)), (b 3, ar cI 9 sk0), (b 4, ar cI 3 (x 4)), (b 5, ar cI 3 (x 5)), (b 6, ar cI 3 (ui (x 6) 0 ((x 6 0) + m0))), (b 7, ar cI 16775 wt), (b 0, ob 4 [iv (x 0 0), iv (x 0 1), .ref (b 1), .ref (b 2), iv (x 0 2), iv (x 0 3), iv (x 0 4), .ref (b 3), .ref (b 4), .ref (b 5), .ref (b 6), iv (x 0 5), .ref (b 7), iv 0])] := hD
          refine lv_iload_n hx hb dX4_run_151 rfl (lv_at hl 3 rfl) ?_
          refine lv_iload_n hx hb dX4_run_152 rfl (lv_at hl 1 rfl) ?_
          refine lv_aload_n hx hb dX4_run_153 rfl (lv_at hl 4 rfl) ?_
          refine va_get (D := D) (ci := 4) (v := .ref (b 1)) (C := RX4) (T := TX4) (N := 14) hx hb hts inX4 hown hK hP 7 rfl rfl 2 (by decide) w4 (fun _ h9 => h9) rfl dX4_run_154 ?_
          refine lv_aload_n hx hb dX4_run_157 rfl (lv_at hl 4 rfl) ?_
          refine va_get (D := D) (ci := 4) (v := .ref (b 4)) (C := RX4) (T := TX4) (N := 14) hx hb hts inX4 hown hK hP 7 rfl rfl 8 (by decide) w2 (fun _ h9 => h9) rfl dX4_run_158 ?_
          refine lv_iload_n hx hb dX4_run_161 rfl (lv_at hl 2 rfl) ?_
          refine i_iald hx hb hK hP 3 0 rfl rfl (by decide) (by decide) (by decide) dX4_run_162 ?_
          refine i_iald hx hb hK hP 0 0 rfl rfl (by omega) (by omega) (by decide) dX4_run_163 ?_
          refine i_imul hx hb dX4_run_164 ?_
          refine i_iadd hx hb dX4_run_165 ?_
          refine i_name (fun t0 ht0 => ?_)
          refine lv_istore_n (lv' := [(1, iv t0), (4, iv (n0 : Int)), (3, iv m0), (2, iv 0), (0, .ref (b 0))]) hx hb dX4_run_166 rfl hl (by decide) rfl (fun ls hl => ?_)
          refine i_iinc (n := 1) (lv' := [(2, iv 1), (1, iv t0), (4, iv (n0 : Int)), (3, iv m0), (0, .ref (b 0))]) hx hb dX4_run_167 hl (k := 3) rfl (by decide) rfl (fun ls hl => ?_)
          refine lv_goto (tgt := 29) hx hb dX4_run_170 (by decide) ?_
          refine lv_iload_n hx hb dX4_run_29 rfl (lv_at hl 0 rfl) ?_
          refine lv_iconst (v := zI 3) hx hb dX4_run_30 rfl ?_
          refine i_icmp_ge (tgt := 173) hx hb ⟨by decide, by decide⟩ ⟨by decide, by decide⟩ dX4_run_31 (by decide) (fun c_6 => absurd c_6 (by decide)) (fun c_6 => ?_)
          refine lv_aload_n hx hb dX4_run_34 rfl (lv_at hl 4 rfl) ?_
          refine lv_iload_n hx hb dX4_run_35 rfl (lv_at hl 0 rfl) ?_
          refine lv_aload_n hx hb dX4_run_36 rfl (lv_at hl 4 rfl) ?_
          refine va_get (D := D) (ci := 4) (v := .ref (b 4)) (C := RX4) (T := TX4) (N := 14) hx hb hts inX4 hown hK hP 7 rfl rfl 8 (by decide) w2 (fun _ h9 => h9) rfl dX4_run_37 ?_
          refine lv_iload_n hx hb dX4_run_40 rfl (lv_at hl 0 rfl) ?_
          refine i_iald hx hb hK hP 3 0 rfl rfl (by decide) (by decide) (by decide) dX4_run_41 ?_
          have hp1 : ∀ c : Int, 3 ≤ c → c < 9 → sk0 c = x 3 c := fun c q1 q2 => ho0 c (by omega) q2 (by omega)
          have hc1 : ∀ z : Int, 0 ≤ z → z < 3 → (fun z : Int => sk0 (3 * 1 + z)) z = (skx x 1) z := fun z q1 q2 => hp1 (3 * 1 + z) (by omega) (by omega)
          obtain ⟨hs1n, hs1w⟩ := ix_sk hI (i := 1) (by decide)
          have hs1t := ix_st hI (i := 1) (by decide)
          refine ms_P (va_runV (As := [iv 1, iv (x 4 1)]) (rest := []) ⟨hx, hb, hml, hown, hts⟩ (mt_X4_sells l D cI cS cJ (b 0) (b 1) (b 2) (b 3) (b 4) (b 5) (b 6) (b 7) (x 0 0) (x 0 1) (x 0 2) (x 0 3) (x 0 4) (x 0 5) 0 sk0 (x 2) 1 (x 4 1) (by omega) (hs1t) (hx2 1 (x 4 1) (by decide) (by decide) hs1t.1 hs1t.2) (nn3_congr hc1 hs1n) (by rw [whl_congr hc1]; exact hs1w)) (cwV 2 hts gX4_run_X4_sells rfl rfl rfl (by decide +kernel) ⟨Nat.le_of_ble_eq_true rfl, Nat.le_of_ble_eq_true rfl⟩) (pc_V (ci := 4) (q0 := 0) hK (hP.sub (ws' := [(b 0, ob 4 [iv (x 0 0), iv (x 0 1), .ref (b 1), .ref (b 2), iv (x 0 2), iv (x 0 3), iv (x 0 4), .ref (b 3), .ref (b 4), .ref (b 5), .ref (b 6), iv (x 0 5), .ref (b 7), iv 0]), (b 2, ar cI 15 (x 2)), (b 3, ar cI 9 sk0)]) [7, 1, 2] rfl) rfl rfl (pcP_S hE hK (hP.sub (ws' := [(b 0, ob 4 [iv (x 0 0), iv (x 0 1), .ref (b 1), .ref (b 2), iv (x 0 2), iv (x 0 3), iv (x 0 4), .ref (b 3), .ref (b 4), .ref (b 5), .ref (b 6), iv (x 0 5), .ref (b 7), iv 0]), (b 2, ar cI 15 (x 2)), (b 3, ar cI 9 sk0)]) [7, 1, 2] rfl))) rfl rfl hl.1 rfl (lv_room (Nat.le_of_ble_eq_true rfl)) dX4_run_42 ⟨Nat.le_of_ble_eq_true rfl, Nat.le_of_ble_eq_true rfl⟩) ?_
          refine i_name (fun m1 hm1 => ?_)
          have hms1 : m1 = slx x 1 := by first | (rw [hm1]; done) | (rw [hm1]; exact slv_congr hc1)
          have hmb1 : 0 ≤ m1 ∧ m1 ≤ whl (skx x 1) := by rw [hms1]; exact slv_in (hx2 1 (x 4 1) (by decide) (by decide) hs1t.1 hs1t.2).1 hs1n
          refine lv_istore_n (lv' := [(3, iv m1), (2, iv 1), (1, iv t0), (4, iv (n0 : Int)), (0, .ref (b 0))]) hx hb dX4_run_45 rfl hl (by decide) rfl (fun ls hl => ?_)
          refine lv_iconst (v := zI 0) hx hb dX4_run_46 rfl ?_
          refine lv_istore (lv' := [(4, iv 0), (3, iv m1), (2, iv 1), (1, iv t0), (0, .ref (b 0))]) hx hb dX4_run_47 hl (by decide) rfl (fun ls hl => ?_)
          have J_49 : ∀ (n_49 : Nat) (n1 : Nat) (sk1 : Int → Int) (hn1 : (n1 : Int) ≤ m1) (hv10 : sk1 3 = decn (skx x 1) n1 0) (hv11 : sk1 4 = decn (skx x 1) n1 1) (hv12 : sk1 5 = decn (skx x 1) n1 2) (ho1 : ∀ c : Int, 0 ≤ c → c < 9 → (c < 3 ∨ 5 < c) → sk1 c = sk0 c) (hm_49 : ((m1 - n1).toNat) < n_49) (H : Heap) (locs : List Loc) (hP : va_P D vwCl [(b 1, ar cI 5 (x 1)), (b 2, ar cI 15 (x 2)), (b 3, ar cI 9 sk1), (b 4, ar cI 3 (x 4)), (b 5, ar cI 3 (x 5)), (b 6, ar cI 3 (ui (x 6) 0 ((x 6 0) + m0))), (b 7, ar cI 16775 wt), (b 0, ob 4 [iv (x 0 0), iv (x 0 1), .ref (b 1), .ref (b 2), iv (x 0 2), iv (x 0 3), iv (x 0 4), .ref (b 3), .ref (b 4), .ref (b 5), .ref (b 6), iv (x 0 5), .ref (b 7), iv 0])] H) (hD : va_D A [(b 1, ar cI 5 (x 1)), (b 2, ar cI 15 (x 2)), (b 3, ar cI 9 sk1), (b 4, ar cI 3 (x 4)), (b 5, ar cI 3 (x 5)), (b 6, ar cI 3 (ui (x 6) 0 ((x 6 0) + m0))), (b 7, ar cI 16775 wt), (b 0, ob 4 [iv (x 0 0), iv (x 0 1), .ref (b 1), .ref (b 2), iv (x 0 2), iv (x 0 3), iv (x 0 4), .ref (b 3), .ref (b 4), .ref (b 5), .ref (b 6), iv (x 0 5), .ref (b 7), iv 0])]) (hS : va_S A s.heap H locs) (ls : Array Slot) (hl : lv_has ls 6 [(4, iv (n1 : Int)), (3, iv m1), (2, iv 1), (1, iv t0), (0, .ref (b 0))]), W p l e rm_X4_run s m args below meth c H locs (0 + 0) (0 + 0) Q (F0 m 49 ls []) := by
            intro n_49
            induction n_49 with
            | zero => intro n1 sk1 hn1 hv10 hv11 hv12 ho1 hm_49 H locs hP hD hS ls hl; exact absurd hm_49 (Nat.not_lt_zero _)
            | succ n_49 ih_49 =>
              intro n1 sk1 hn1 hv10 hv11 hv12 ho1 hm_49 H locs hP hD hS ls hl
              refine lv_iload hx hb dX4_run_49 (lv_at hl 0 rfl) ?_
              refine lv_iload_n hx hb dX4_run_51 rfl (lv_at hl 1 rfl) ?_
              refine i_icmp_ge (tgt := 141) hx hb ⟨by omega, by omega⟩ ⟨by omega, by omega⟩ dX4_run_52 (by decide) (fun c_7 => ?_) (fun c_7 => ?_)
              · skip
                have he1 : n1 = (slx x 1).toNat := by rw [← hms1]; omega
                refine lv_aload_n hx hb dX4_run_141 rfl (lv_at hl 4 rfl) ?_
                refine va_get (D := D) (ci := 4) (v := .ref (b 6)) (C := RX4) (T := TX4) (N := 14) hx hb hts inX4 hown hK hP 7 rfl rfl 10 (by decide) w3 (fun _ h9 => h9) rfl dX4_run_142 ?_
                refine lv_iload_n hx hb dX4_run_145 rfl (lv_at hl 2 rfl) ?_
                refine lv_dup2_11 hx hb dX4_run_146 rfl rfl ?_
                refine i_iald hx hb hK hP 5 0 rfl rfl (by decide) (by decide) (by decide) dX4_run_147 ?_
                refine i_eqz (y := x 6 1) (by first | rfl | exact ui_s) ?_
                refine lv_iload_n hx hb dX4_run_148 rfl (lv_at hl 1 rfl) ?_
                refine i_iadd hx hb dX4_run_149 ?_
                refine i_iast hx hb hK hP hD hS 5 0 rfl rfl (by decide) (by decide) (by decide) dX4_run_150 (fun H locs hP hD hS => ?_)
                have hP : va_P D vwCl [(b 1, ar cI 5 (x 1)), (b 2, ar cI 15 (x 2)), (b 3, ar cI 9 sk1), (b 4, ar cI 3 (x 4)), (b 5, ar cI 3 (x 5)), (b 6, ar cI 3 (ui (ui (x 6) 0 ((x 6 0) + m0)) 1 ((x 6 1) + m1))), (b 7, ar cI 16775 wt), (b 0, ob 4 [iv (x 0 0), iv (x 0 1), .ref (b 1), .ref (b 2), iv (x 0 2), iv (x 0 3), iv (x 0 4), .ref (b 3), .ref (b 4), .ref (b 5), .ref (b 6), iv (x 0 5), .ref (b 7), iv 0])] H := hP
                have hD : va_D A [(b 1, ar cI 5 (x 1)), (b 2, ar cI 15 (x 2)), (b 3, ar cI 9 sk1), (b 4, ar cI 3 (x 4)), (b 5, ar cI 3 (x 5)), (b 6, ar cI 3 (ui (ui (x 6) 0 ((x 6 0) + m0)) 1 ((x 6 1) + m1))), (b 7, ar cI 16775 wt), (b 0, ob 4 [iv (x 0 0), iv (x 0 1), .ref (b 1), .ref (b 2), iv (x 0 2), iv (x 0 3), iv (x 0 4), .ref (b 3), .ref (b 4), .ref (b 5), .ref (b 6), iv (x 0 5), .ref (b 7), iv 0])] := hD
                refine lv_iload_n hx hb dX4_run_151 rfl (lv_at hl 3 rfl) ?_
                refine lv_iload_n hx hb dX4_run_152 rfl (lv_at hl 1 rfl) ?_
                refine lv_aload_n hx hb dX4_run_153 rfl (lv_at hl 4 rfl) ?_
                refine va_get (D := D) (ci := 4) (v := .ref (b 1)) (C := RX4) (T := TX4) (N := 14) hx hb hts inX4 hown hK hP 7 rfl rfl 2 (by decide) w4 (fun _ h9 => h9) rfl dX4_run_154 ?_
                refine lv_aload_n hx hb dX4_run_157 rfl (lv_at hl 4 rfl) ?_
                refine va_get (D := D) (ci := 4) (v := .ref (b 4)) (C := RX4) (T := TX4) (N := 14) hx hb hts inX4 hown hK hP 7 rfl rfl 8 (by decide) w2 (fun _ h9 => h9) rfl dX4_run_158 ?_
                refine lv_iload_n hx hb dX4_run_161 rfl (lv_at hl 2 rfl) ?_
                refine i_iald hx hb hK hP 3 0 rfl rfl (by decide) (by decide) (by decide) dX4_run_162 ?_
                refine i_iald hx hb hK hP 0 0 rfl rfl (by omega) (by omega) (by decide) dX4_run_163 ?_
                refine i_imul hx hb dX4_run_164 ?_
                refine i_iadd hx hb dX4_run_165 ?_
                refine i_name (fun t1 ht1 => ?_)
                refine lv_istore_n (lv' := [(1, iv t1), (4, iv (n1 : Int)), (3, iv m1), (2, iv 1), (0, .ref (b 0))]) hx hb dX4_run_166 rfl hl (by decide) rfl (fun ls hl => ?_)
                refine i_iinc (n := 1) (lv' := [(2, iv 2), (1, iv t1), (4, iv (n1 : Int)), (3, iv m1), (0, .ref (b 0))]) hx hb dX4_run_167 hl (k := 3) rfl (by decide) rfl (fun ls hl => ?_)
                refine lv_goto (tgt := 29) hx hb dX4_run_170 (by decide) ?_
                refine lv_iload_n hx hb dX4_run_29 rfl (lv_at hl 0 rfl) ?_
                refine lv_iconst (v := zI 3) hx hb dX4_run_30 rfl ?_
                refine i_icmp_ge (tgt := 173) hx hb ⟨by decide, by decide⟩ ⟨by decide, by decide⟩ dX4_run_31 (by decide) (fun c_8 => absurd c_8 (by decide)) (fun c_8 => ?_)
                refine lv_aload_n hx hb dX4_run_34 rfl (lv_at hl 4 rfl) ?_
                refine lv_iload_n hx hb dX4_run_35 rfl (lv_at hl 0 rfl) ?_
                refine lv_aload_n hx hb dX4_run_36 rfl (lv_at hl 4 rfl) ?_
                refine va_get (D := D) (ci := 4) (v := .ref (b 4)) (C := RX4) (T := TX4) (N := 14) hx hb hts inX4 hown hK hP 7 rfl rfl 8 (by decide) w2 (fun _ h9 => h9) rfl dX4_run_37 ?_
                refine lv_iload_n hx hb dX4_run_40 rfl (lv_at hl 0 rfl) ?_
                refine i_iald hx hb hK hP 3 0 rfl rfl (by decide) (by decide) (by decide) dX4_run_41 ?_
                have hp2 : ∀ c : Int, 6 ≤ c → c < 9 → sk1 c = x 3 c := fun c q1 q2 => (ho1 c (by omega) q2 (by omega)).trans (hp1 c (by omega) q2)
                have hc2 : ∀ z : Int, 0 ≤ z → z < 3 → (fun z : Int => sk1 (3 * 2 + z)) z = (skx x 2) z := fun z q1 q2 => hp2 (3 * 2 + z) (by omega) (by omega)
                obtain ⟨hs2n, hs2w⟩ := ix_sk hI (i := 2) (by decide)
                have hs2t := ix_st hI (i := 2) (by decide)
                refine ms_P (va_runV (As := [iv 2, iv (x 4 2)]) (rest := []) ⟨hx, hb, hml, hown, hts⟩ (mt_X4_sells l D cI cS cJ (b 0) (b 1) (b 2) (b 3) (b 4) (b 5) (b 6) (b 7) (x 0 0) (x 0 1) (x 0 2) (x 0 3) (x 0 4) (x 0 5) 0 sk1 (x 2) 2 (x 4 2) (by omega) (hs2t) (hx2 2 (x 4 2) (by decide) (by decide) hs2t.1 hs2t.2) (nn3_congr hc2 hs2n) (by rw [whl_congr hc2]; exact hs2w)) (cwV 2 hts gX4_run_X4_sells rfl rfl rfl (by decide +kernel) ⟨Nat.le_of_ble_eq_true rfl, Nat.le_of_ble_eq_true rfl⟩) (pc_V (ci := 4) (q0 := 0) hK (hP.sub (ws' := [(b 0, ob 4 [iv (x 0 0), iv (x 0 1), .ref (b 1), .ref (b 2), iv (x 0 2), iv (x 0 3), iv (x 0 4), .ref (b 3), .ref (b 4), .ref (b 5), .ref (b 6), iv (x 0 5), .ref (b 7), iv 0]), (b 2, ar cI 15 (x 2)), (b 3, ar cI 9 sk1)]) [7, 1, 2] rfl) rfl rfl (pcP_S hE hK (hP.sub (ws' := [(b 0, ob 4 [iv (x 0 0), iv (x 0 1), .ref (b 1), .ref (b 2), iv (x 0 2), iv (x 0 3), iv (x 0 4), .ref (b 3), .ref (b 4), .ref (b 5), .ref (b 6), iv (x 0 5), .ref (b 7), iv 0]), (b 2, ar cI 15 (x 2)), (b 3, ar cI 9 sk1)]) [7, 1, 2] rfl))) rfl rfl hl.1 rfl (lv_room (Nat.le_of_ble_eq_true rfl)) dX4_run_42 ⟨Nat.le_of_ble_eq_true rfl, Nat.le_of_ble_eq_true rfl⟩) ?_
                refine i_name (fun m2 hm2 => ?_)
                have hms2 : m2 = slx x 2 := by first | (rw [hm2]; done) | (rw [hm2]; exact slv_congr hc2)
                have hmb2 : 0 ≤ m2 ∧ m2 ≤ whl (skx x 2) := by rw [hms2]; exact slv_in (hx2 2 (x 4 2) (by decide) (by decide) hs2t.1 hs2t.2).1 hs2n
                refine lv_istore_n (lv' := [(3, iv m2), (2, iv 2), (1, iv t1), (4, iv (n1 : Int)), (0, .ref (b 0))]) hx hb dX4_run_45 rfl hl (by decide) rfl (fun ls hl => ?_)
                refine lv_iconst (v := zI 0) hx hb dX4_run_46 rfl ?_
                refine lv_istore (lv' := [(4, iv 0), (3, iv m2), (2, iv 2), (1, iv t1), (0, .ref (b 0))]) hx hb dX4_run_47 hl (by decide) rfl (fun ls hl => ?_)
                have J_49 : ∀ (n_49 : Nat) (n2 : Nat) (sk2 : Int → Int) (hn2 : (n2 : Int) ≤ m2) (hv20 : sk2 6 = decn (skx x 2) n2 0) (hv21 : sk2 7 = decn (skx x 2) n2 1) (hv22 : sk2 8 = decn (skx x 2) n2 2) (ho2 : ∀ c : Int, 0 ≤ c → c < 9 → (c < 6 ∨ 8 < c) → sk2 c = sk1 c) (hm_49 : ((m2 - n2).toNat) < n_49) (H : Heap) (locs : List Loc) (hP : va_P D vwCl [(b 1, ar cI 5 (x 1)), (b 2, ar cI 15 (x 2)), (b 3, ar cI 9 sk2), (b 4, ar cI 3 (x 4)), (b 5, ar cI 3 (x 5)), (b 6, ar cI 3 (ui (ui (x 6) 0 ((x 6 0) + m0)) 1 ((x 6 1) + m1))), (b 7, ar cI 16775 wt), (b 0, ob 4 [iv (x 0 0), iv (x 0 1), .ref (b 1), .ref (b 2), iv (x 0 2), iv (x 0 3), iv (x 0 4), .ref (b 3), .ref (b 4), .ref (b 5), .ref (b 6), iv (x 0 5), .ref (b 7), iv 0])] H) (hD : va_D A [(b 1, ar cI 5 (x 1)), (b 2, ar cI 15 (x 2)), (b 3, ar cI 9 sk2), (b 4, ar cI 3 (x 4)), (b 5, ar cI 3 (x 5)), (b 6, ar cI 3 (ui (ui (x 6) 0 ((x 6 0) + m0)) 1 ((x 6 1) + m1))), (b 7, ar cI 16775 wt), (b 0, ob 4 [iv (x 0 0), iv (x 0 1), .ref (b 1), .ref (b 2), iv (x 0 2), iv (x 0 3), iv (x 0 4), .ref (b 3), .ref (b 4), .ref (b 5), .ref (b 6), iv (x 0 5), .ref (b 7), iv 0])]) (hS : va_S A s.heap H locs) (ls : Array Slot) (hl : lv_has ls 6 [(4, iv (n2 : Int)), (3, iv m2), (2, iv 2), (1, iv t1), (0, .ref (b 0))]), W p l e rm_X4_run s m args below meth c H locs (0 + 0) (0 + 0) Q (F0 m 49 ls []) := by
                  intro n_49
                  induction n_49 with
                  | zero => intro n2 sk2 hn2 hv20 hv21 hv22 ho2 hm_49 H locs hP hD hS ls hl; exact absurd hm_49 (Nat.not_lt_zero _)
                  | succ n_49 ih_49 =>
                    intro n2 sk2 hn2 hv20 hv21 hv22 ho2 hm_49 H locs hP hD hS ls hl
                    refine lv_iload hx hb dX4_run_49 (lv_at hl 0 rfl) ?_
                    refine lv_iload_n hx hb dX4_run_51 rfl (lv_at hl 1 rfl) ?_
                    refine i_icmp_ge (tgt := 141) hx hb ⟨by omega, by omega⟩ ⟨by omega, by omega⟩ dX4_run_52 (by decide) (fun c_9 => ?_) (fun c_9 => ?_)
                    · skip
                      have he2 : n2 = (slx x 2).toNat := by rw [← hms2]; omega
                      refine lv_aload_n hx hb dX4_run_141 rfl (lv_at hl 4 rfl) ?_
                      refine va_get (D := D) (ci := 4) (v := .ref (b 6)) (C := RX4) (T := TX4) (N := 14) hx hb hts inX4 hown hK hP 7 rfl rfl 10 (by decide) w3 (fun _ h9 => h9) rfl dX4_run_142 ?_
                      refine lv_iload_n hx hb dX4_run_145 rfl (lv_at hl 2 rfl) ?_
                      refine lv_dup2_11 hx hb dX4_run_146 rfl rfl ?_
                      refine i_iald hx hb hK hP 5 0 rfl rfl (by decide) (by decide) (by decide) dX4_run_147 ?_
                      refine i_eqz (y := x 6 2) (by first | rfl | exact ui_s) ?_
                      refine lv_iload_n hx hb dX4_run_148 rfl (lv_at hl 1 rfl) ?_
                      refine i_iadd hx hb dX4_run_149 ?_
                      refine i_iast hx hb hK hP hD hS 5 0 rfl rfl (by decide) (by decide) (by decide) dX4_run_150 (fun H locs hP hD hS => ?_)
                      have hP : va_P D vwCl [(b 1, ar cI 5 (x 1)), (b 2, ar cI 15 (x 2)), (b 3, ar cI 9 sk2), (b 4, ar cI 3 (x 4)), (b 5, ar cI 3 (x 5)), (b 6, ar cI 3 (ui (ui (ui (x 6) 0 ((x 6 0) + m0)) 1 ((x 6 1) + m1)) 2 ((x 6 2) + m2))), (b 7, ar cI 16775 wt), (b 0, ob 4 [iv (x 0 0), iv (x 0 1), .ref (b 1), .ref (b 2), iv (x 0 2), iv (x 0 3), iv (x 0 4), .ref (b 3), .ref (b 4), .ref (b 5), .ref (b 6), iv (x 0 5), .ref (b 7), iv 0])] H := hP
                      have hD : va_D A [(b 1, ar cI 5 (x 1)), (b 2, ar cI 15 (x 2)), (b 3, ar cI 9 sk2), (b 4, ar cI 3 (x 4)), (b 5, ar cI 3 (x 5)), (b 6, ar cI 3 (ui (ui (ui (x 6) 0 ((x 6 0) + m0)) 1 ((x 6 1) + m1)) 2 ((x 6 2) + m2))), (b 7, ar cI 16775 wt), (b 0, ob 4 [iv (x 0 0), iv (x 0 1), .ref (b 1), .ref (b 2), iv (x 0 2), iv (x 0 3), iv (x 0 4), .ref (b 3), .ref (b 4), .ref (b 5), .ref (b 6), iv (x 0 5), .ref (b 7), iv 0])] := hD
                      refine lv_iload_n hx hb dX4_run_151 rfl (lv_at hl 3 rfl) ?_
                      refine lv_iload_n hx hb dX4_run_152 rfl (lv_at hl 1 rfl) ?_
                      refine lv_aload_n hx hb dX4_run_153 rfl (lv_at hl 4 rfl) ?_
                      refine va_get (D := D) (ci := 4) (v := .ref (b 1)) (C := RX4) (T := TX4) (N := 14) hx hb hts inX4 hown hK hP 7 rfl rfl 2 (by decide) w4 (fun _ h9 => h9) rfl dX4_run_154 ?_
                      refine lv_aload_n hx hb dX4_run_157 rfl (lv_at hl 4 rfl) ?_
                      refine va_get (D := D) (ci := 4) (v := .ref (b 4)) (C := RX4) (T := TX4) (N := 14) hx hb hts inX4 hown hK hP 7 rfl rfl 8 (by decide) w2 (fun _ h9 => h9) rfl dX4_run_158 ?_
                      refine lv_iload_n hx hb dX4_run_161 rfl (lv_at hl 2 rfl) ?_
                      refine i_iald hx hb hK hP 3 0 rfl rfl (by decide) (by decide) (by decide) dX4_run_162 ?_
                      refine i_iald hx hb hK hP 0 0 rfl rfl (by omega) (by omega) (by decide) dX4_run_163 ?_
                      refine i_imul hx hb dX4_run_164 ?_
                      refine i_iadd hx hb dX4_run_165 ?_
                      refine i_name (fun t2 ht2 => ?_)
                      refine lv_istore_n (lv' := [(1, iv t2), (4, iv (n2 : Int)), (3, iv m2), (2, iv 2), (0, .ref (b 0))]) hx hb dX4_run_166 rfl hl (by decide) rfl (fun ls hl => ?_)
                      refine i_iinc (n := 1) (lv' := [(2, iv 3), (1, iv t2), (4, iv (n2 : Int)), (3, iv m2), (0, .ref (b 0))]) hx hb dX4_run_167 hl (k := 3) rfl (by decide) rfl (fun ls hl => ?_)
                      refine lv_goto (tgt := 29) hx hb dX4_run_170 (by decide) ?_
                      refine lv_iload_n hx hb dX4_run_29 rfl (lv_at hl 0 rfl) ?_
                      refine lv_iconst (v := zI 3) hx hb dX4_run_30 rfl ?_
                      refine i_icmp_ge (tgt := 173) hx hb ⟨by decide, by decide⟩ ⟨by decide, by decide⟩ dX4_run_31 (by decide) (fun c_10 => ?_) (fun c_10 => absurd (by decide) c_10)
                      have hT : t2 = tkx x 0 + tkx x 1 + tkx x 2 := by
                        show t2 = slx x 0 * x 1 (x 4 0) + slx x 1 * x 1 (x 4 1) + slx x 2 * x 1 (x 4 2)
                        rw [← hms0, ← hms1, ← hms2]
                        omega
                      refine lv_aload_n hx hb dX4_run_173 rfl (lv_at hl 4 rfl) ?_
                      refine lv_dup hx hb dX4_run_174 rfl ?_
                      refine va_get (D := D) (ci := 4) (v := iv (x 0 5)) (C := RX4) (T := TX4) (N := 14) hx hb hts inX4 hown hK hP 7 rfl rfl 11 (by decide) w5 (fun _ h9 => h9) rfl dX4_run_175 ?_
                      refine lv_iload_n hx hb dX4_run_178 rfl (lv_at hl 1 rfl) ?_
                      refine i_iadd hx hb dX4_run_179 ?_
                      refine va_put (D := D) (ci := 4) (v := iv ((x 0 5) + t2)) (ty := .int) (C := RX4) (T := TX4) (N := 14) hx hb hts inX4 tyX4 tyX4_ok nmX4 hown hK hP hD hS 7 rfl rfl 11 (by decide) w5 (fun _ h9 => h9) rfl (by decide +kernel) rfl rfl (Nat.le_of_ble_eq_true rfl) dX4_run_180 (fun H locs hP hD hS => ?_)
                      have hP : va_P D vwCl [(b 1, ar cI 5 (x 1)), (b 2, ar cI 15 (x 2)), (b 3, ar cI 9 sk2), (b 4, ar cI 3 (x 4)), (b 5, ar cI 3 (x 5)), (b 6, ar cI 3 (ui (ui (ui (x 6) 0 ((x 6 0) + m0)) 1 ((x 6 1) + m1)) 2 ((x 6 2) + m2))), (b 7, ar cI 16775 wt), (b 0, ob 4 [iv (x 0 0), iv (x 0 1), .ref (b 1), .ref (b 2), iv (x 0 2), iv (x 0 3), iv (x 0 4), .ref (b 3), .ref (b 4), .ref (b 5), .ref (b 6), iv ((x 0 5) + t2), .ref (b 7), iv 0])] H := hP
                      have hD : va_D A [(b 1, ar cI 5 (x 1)), (b 2, ar cI 15 (x 2)), (b 3, ar cI 9 sk2), (b 4, ar cI 3 (x 4)), (b 5, ar cI 3 (x 5)), (b 6, ar cI 3 (ui (ui (ui (x 6) 0 ((x 6 0) + m0)) 1 ((x 6 1) + m1)) 2 ((x 6 2) + m2))), (b 7, ar cI 16775 wt), (b 0, ob 4 [iv (x 0 0), iv (x 0 1), .ref (b 1), .ref (b 2), iv (x 0 2), iv (x 0 3), iv (x 0 4), .ref (b 3), .ref (b 4), .ref (b 5), .ref (b 6), iv ((x 0 5) + t2), .ref (b 7), iv 0])] := hD
                      refine lv_aload_n hx hb dX4_run_183 rfl (lv_at hl 4 rfl) ?_
                      refine lv_dup hx hb dX4_run_184 rfl ?_
                      refine va_get (D := D) (ci := 4) (v := iv (x 0 1)) (C := RX4) (T := TX4) (N := 14) hx hb hts inX4 hown hK hP 7 rfl rfl 1 (by decide) w0 (fun _ h9 => h9) rfl dX4_run_185 ?_
                      refine lv_iconst (v := zI 1) hx hb dX4_run_188 rfl ?_
                      refine i_iadd hx hb dX4_run_189 ?_
                      refine va_put (D := D) (ci := 4) (v := iv ((x 0 1) + 1)) (ty := .int) (C := RX4) (T := TX4) (N := 14) hx hb hts inX4 tyX4 tyX4_ok nmX4 hown hK hP hD hS 7 rfl rfl 1 (by decide) w0 (fun _ h9 => h9) rfl (by decide +kernel) rfl rfl (Nat.le_of_ble_eq_true rfl) dX4_run_190 (fun H locs hP hD hS => ?_)
                      have hP : va_P D vwCl [(b 1, ar cI 5 (x 1)), (b 2, ar cI 15 (x 2)), (b 3, ar cI 9 sk2), (b 4, ar cI 3 (x 4)), (b 5, ar cI 3 (x 5)), (b 6, ar cI 3 (ui (ui (ui (x 6) 0 ((x 6 0) + m0)) 1 ((x 6 1) + m1)) 2 ((x 6 2) + m2))), (b 7, ar cI 16775 wt), (b 0, ob 4 [iv (x 0 0), iv ((x 0 1) + 1), .ref (b 1), .ref (b 2), iv (x 0 2), iv (x 0 3), iv (x 0 4), .ref (b 3), .ref (b 4), .ref (b 5), .ref (b 6), iv ((x 0 5) + t2), .ref (b 7), iv 0])] H := hP
                      have hD : va_D A [(b 1, ar cI 5 (x 1)), (b 2, ar cI 15 (x 2)), (b 3, ar cI 9 sk2), (b 4, ar cI 3 (x 4)), (b 5, ar cI 3 (x 5)), (b 6, ar cI 3 (ui (ui (ui (x 6) 0 ((x 6 0) + m0)) 1 ((x 6 1) + m1)) 2 ((x 6 2) + m2))), (b 7, ar cI 16775 wt), (b 0, ob 4 [iv (x 0 0), iv ((x 0 1) + 1), .ref (b 1), .ref (b 2), iv (x 0 2), iv (x 0 3), iv (x 0 4), .ref (b 3), .ref (b 4), .ref (b 5), .ref (b 6), iv ((x 0 5) + t2), .ref (b 7), iv 0])] := hD
                      refine lv_iload_n hx hb dX4_run_193 rfl (lv_at hl 1 rfl) ?_
                      have hW9 : WE D vwCl [(b 0, ob 4 [iv (x 0 0), iv ((x 0 1) + 1), .ref (b 1), .ref (b 2), iv (x 0 2), iv (x 0 3), iv (x 0 4), .ref (b 3), .ref (b 4), .ref (b 5), .ref (b 6), iv ((x 0 5) + t2), .ref (b 7), iv 0]), (b 1, ar cI 5 (x 1)), (b 2, ar cI 15 (x 2)), (b 3, ar cI 9 sk2), (b 4, ar cI 3 (x 4)), (b 5, ar cI 3 (x 5)), (b 6, ar cI 3 (ui (ui (ui (x 6) 0 ((x 6 0) + m0)) 1 ((x 6 1) + m1)) 2 ((x 6 2) + m2))), (b 7, ar cI 16775 wt)] [(b 0, ob 4 [iv ((x_run x) 0 0), iv ((x_run x) 0 1), .ref (b 1), .ref (b 2), iv ((x_run x) 0 2), iv ((x_run x) 0 3), iv ((x_run x) 0 4), .ref (b 3), .ref (b 4), .ref (b 5), .ref (b 6), iv ((x_run x) 0 5), .ref (b 7), iv 0]), (b 1, ar cI 5 ((x_run x) 1)), (b 2, ar cI 15 ((x_run x) 2)), (b 3, ar cI 9 ((x_run x) 3)), (b 4, ar cI 3 ((x_run x) 4)), (b 5, ar cI 3 ((x_run x) 5)), (b 6, ar cI 3 ((x_run x) 6)), (b 7, ar cI 16775 wt)] := ⟨ce_of (by rw [hT]; rfl), ⟨ce_ar (fun j h0 h1 => by first | rfl | (simp only [up_ap, ui_ap, x_begin, Nat.reduceEqDiff, eq_self, ↓reduceIte] <;> (repeat' split) <;> first | rfl | omega)), ⟨ce_ar (fun j h0 h1 => by first | rfl | (simp only [up_ap, ui_ap, x_begin, Nat.reduceEqDiff, eq_self, ↓reduceIte] <;> (repeat' split) <;> first | rfl | omega)), ⟨ce_ar (fun j h0 h1 => by rcases (show j = 0 ∨ j = 1 ∨ j = 2 ∨ j = 3 ∨ j = 4 ∨ j = 5 ∨ j = 6 ∨ j = 7 ∨ j = 8 by omega) with rfl | rfl | rfl | rfl | rfl | rfl | rfl | rfl | rfl; show sk2 0 = decn (skx x 0) (slx x 0).toNat 0; rw [ho2 0 (by decide) (by decide) (by decide), ho1 0 (by decide) (by decide) (by decide), hv00, he0]; show sk2 1 = decn (skx x 0) (slx x 0).toNat 1; rw [ho2 1 (by decide) (by decide) (by decide), ho1 1 (by decide) (by decide) (by decide), hv01, he0]; show sk2 2 = decn (skx x 0) (slx x 0).toNat 2; rw [ho2 2 (by decide) (by decide) (by decide), ho1 2 (by decide) (by decide) (by decide), hv02, he0]; show sk2 3 = decn (skx x 1) (slx x 1).toNat 0; rw [ho2 3 (by decide) (by decide) (by decide), hv10, he1]; show sk2 4 = decn (skx x 1) (slx x 1).toNat 1; rw [ho2 4 (by decide) (by decide) (by decide), hv11, he1]; show sk2 5 = decn (skx x 1) (slx x 1).toNat 2; rw [ho2 5 (by decide) (by decide) (by decide), hv12, he1]; show sk2 6 = decn (skx x 2) (slx x 2).toNat 0; rw [hv20, he2]; show sk2 7 = decn (skx x 2) (slx x 2).toNat 1; rw [hv21, he2]; show sk2 8 = decn (skx x 2) (slx x 2).toNat 2; rw [hv22, he2]), ⟨ce_ar (fun j h0 h1 => by first | rfl | (simp only [up_ap, ui_ap, x_begin, Nat.reduceEqDiff, eq_self, ↓reduceIte] <;> (repeat' split) <;> first | rfl | omega)), ⟨ce_ar (fun j h0 h1 => by first | rfl | (simp only [up_ap, ui_ap, x_begin, Nat.reduceEqDiff, eq_self, ↓reduceIte] <;> (repeat' split) <;> first | rfl | omega)), ⟨ce_ar (fun j h0 h1 => by rcases (show j = 0 ∨ j = 1 ∨ j = 2 by omega) with rfl | rfl | rfl; show x 6 0 + m0 = x 6 0 + slx x 0; rw [hms0]; show x 6 1 + m1 = x 6 1 + slx x 1; rw [hms1]; show x 6 2 + m2 = x 6 2 + slx x 2; rw [hms2]), ⟨ce_rf, trivial⟩⟩⟩⟩⟩⟩⟩⟩
                      subst hQ
                      exact r_Mi hx hb hr hlocks (by first | rfl | decide) dX4_run_194 hS (hW9.P (hP.sub (ws' := [(b 0, ob 4 [iv (x 0 0), iv ((x 0 1) + 1), .ref (b 1), .ref (b 2), iv (x 0 2), iv (x 0 3), iv (x 0 4), .ref (b 3), .ref (b 4), .ref (b 5), .ref (b 6), iv ((x 0 5) + t2), .ref (b 7), iv 0]), (b 1, ar cI 5 (x 1)), (b 2, ar cI 15 (x 2)), (b 3, ar cI 9 sk2), (b 4, ar cI 3 (x 4)), (b 5, ar cI 3 (x 5)), (b 6, ar cI 3 (ui (ui (ui (x 6) 0 ((x 6 0) + m0)) 1 ((x 6 1) + m1)) 2 ((x 6 2) + m2))), (b 7, ar cI 16775 wt)]) [7, 0, 1, 2, 3, 4, 5, 6] rfl)) (hW9.D (hD.sub (ws' := [(b 0, ob 4 [iv (x 0 0), iv ((x 0 1) + 1), .ref (b 1), .ref (b 2), iv (x 0 2), iv (x 0 3), iv (x 0 4), .ref (b 3), .ref (b 4), .ref (b 5), .ref (b 6), iv ((x 0 5) + t2), .ref (b 7), iv 0]), (b 1, ar cI 5 (x 1)), (b 2, ar cI 15 (x 2)), (b 3, ar cI 9 sk2), (b 4, ar cI 3 (x 4)), (b 5, ar cI 3 (x 5)), (b 6, ar cI 3 (ui (ui (ui (x 6) 0 ((x 6 0) + m0)) 1 ((x 6 1) + m1)) 2 ((x 6 2) + m2))), (b 7, ar cI 16775 wt)]) [7, 0, 1, 2, 3, 4, 5, 6] (by decide) rfl)) (⟨t2, 0, (x_run x), (Or.inl ⟨by omega, trivial, rfl, hT, rfl⟩), rfl, rfl⟩) (Nat.le_of_ble_eq_true rfl) (Nat.le_of_ble_eq_true rfl)
                    · skip
                      have hwn := whl_decn (skx x 2) n2
                      have hkn : Nn3 (decn (skx x 2) n2) := decn_nn hs2n n2 (by omega)
                      have hwb : whl (decn (skx x 2) n2) ≤ 60 := by omega
                      have hb0 := nn3_at hkn hwb (z := 0) (by decide) (by decide)
                      rw [← hv20] at hb0
                      have hb1 := nn3_at hkn hwb (z := 1) (by decide) (by decide)
                      rw [← hv21] at hb1
                      have hb2 := nn3_at hkn hwb (z := 2) (by decide) (by decide)
                      rw [← hv22] at hb2
                      refine lv_iconst (v := zI 3) hx hb dX4_run_55 rfl ?_
                      refine lv_iload_n hx hb dX4_run_56 rfl (lv_at hl 2 rfl) ?_
                      refine i_imul hx hb dX4_run_57 ?_
                      refine i_eqz (y := 6) (by decide) ?_
                      refine lv_istore (lv' := [(5, iv 6), (4, iv (n2 : Int)), (3, iv m2), (2, iv 2), (1, iv t1), (0, .ref (b 0))]) hx hb dX4_run_58 hl (by decide) rfl (fun ls hl => ?_)
                      refine lv_aload_n hx hb dX4_run_60 rfl (lv_at hl 5 rfl) ?_
                      refine va_get (D := D) (ci := 4) (v := .ref (b 3)) (C := RX4) (T := TX4) (N := 14) hx hb hts inX4 hown hK hP 7 rfl rfl 7 (by decide) w6 (fun _ h9 => h9) rfl dX4_run_61 ?_
                      refine lv_iconst (v := zI 3) hx hb dX4_run_64 rfl ?_
                      refine lv_iload_n hx hb dX4_run_65 rfl (lv_at hl 3 rfl) ?_
                      refine i_imul hx hb dX4_run_66 ?_
                      refine i_eqz (y := 6) (by decide) ?_
                      refine lv_iconst (v := zI 1) hx hb dX4_run_67 rfl ?_
                      refine i_iadd hx hb dX4_run_68 ?_
                      refine i_eqz (y := 7) (by decide) ?_
                      refine i_iald hx hb hK hP 2 0 rfl rfl (by decide) (by decide) (by decide) dX4_run_69 ?_
                      refine lv_aload_n hx hb dX4_run_70 rfl (lv_at hl 5 rfl) ?_
                      refine va_get (D := D) (ci := 4) (v := .ref (b 3)) (C := RX4) (T := TX4) (N := 14) hx hb hts inX4 hown hK hP 7 rfl rfl 7 (by decide) w6 (fun _ h9 => h9) rfl dX4_run_71 ?_
                      refine lv_iload hx hb dX4_run_74 (lv_at hl 0 rfl) ?_
                      refine i_iald hx hb hK hP 2 0 rfl rfl (by decide) (by decide) (by decide) dX4_run_76 ?_
                      refine i_icmp_le (tgt := 88) hx hb ⟨by omega, by omega⟩ ⟨by omega, by omega⟩ dX4_run_77 (by decide) (fun c_11 => ?_) (fun c_11 => ?_)
                      · skip
                        have hfu : fu1 (decn (skx x 2) n2) = 0 := by unfold fu1; rw [← hv20, ← hv21]; exact if_neg (by omega)
                        refine lv_iload hx hb dX4_run_88 (lv_at hl 0 rfl) ?_
                        refine lv_istore (lv' := [(5, iv 6), (4, iv (n2 : Int)), (3, iv m2), (2, iv 2), (1, iv t1), (0, .ref (b 0))]) hx hb dX4_run_90 hl (by decide) rfl (fun ls hl => ?_)
                        refine lv_aload_n hx hb dX4_run_92 rfl (lv_at hl 5 rfl) ?_
                        refine va_get (D := D) (ci := 4) (v := .ref (b 3)) (C := RX4) (T := TX4) (N := 14) hx hb hts inX4 hown hK hP 7 rfl rfl 7 (by decide) w6 (fun _ h9 => h9) rfl dX4_run_93 ?_
                        refine lv_iconst (v := zI 3) hx hb dX4_run_96 rfl ?_
                        refine lv_iload_n hx hb dX4_run_97 rfl (lv_at hl 3 rfl) ?_
                        refine i_imul hx hb dX4_run_98 ?_
                        refine i_eqz (y := 6) (by decide) ?_
                        refine lv_iconst (v := zI 2) hx hb dX4_run_99 rfl ?_
                        refine i_iadd hx hb dX4_run_100 ?_
                        refine i_eqz (y := 8) (by decide) ?_
                        refine i_iald hx hb hK hP 2 0 rfl rfl (by decide) (by decide) (by decide) dX4_run_101 ?_
                        refine lv_aload_n hx hb dX4_run_102 rfl (lv_at hl 5 rfl) ?_
                        refine va_get (D := D) (ci := 4) (v := .ref (b 3)) (C := RX4) (T := TX4) (N := 14) hx hb hts inX4 hown hK hP 7 rfl rfl 7 (by decide) w6 (fun _ h9 => h9) rfl dX4_run_103 ?_
                        refine lv_iload hx hb dX4_run_106 (lv_at hl 0 rfl) ?_
                        refine i_iald hx hb hK hP 2 0 rfl rfl (by decide) (by decide) (by decide) dX4_run_108 ?_
                        refine i_icmp_le (tgt := 120) hx hb ⟨by omega, by omega⟩ ⟨by omega, by omega⟩ dX4_run_109 (by decide) (fun c_12 => ?_) (fun c_12 => ?_)
                        · skip
                          have hf : fst (decn (skx x 2) n2) = 0 := by unfold fst; rw [hfu, ← hv22, ← hv20]; exact if_neg (by omega)
                          refine lv_iload hx hb dX4_run_120 (lv_at hl 0 rfl) ?_
                          refine lv_istore (lv' := [(5, iv 6), (4, iv (n2 : Int)), (3, iv m2), (2, iv 2), (1, iv t1), (0, .ref (b 0))]) hx hb dX4_run_122 hl (by decide) rfl (fun ls hl => ?_)
                          refine lv_aload_n hx hb dX4_run_124 rfl (lv_at hl 5 rfl) ?_
                          refine va_get (D := D) (ci := 4) (v := .ref (b 3)) (C := RX4) (T := TX4) (N := 14) hx hb hts inX4 hown hK hP 7 rfl rfl 7 (by decide) w6 (fun _ h9 => h9) rfl dX4_run_125 ?_
                          refine lv_iload hx hb dX4_run_128 (lv_at hl 0 rfl) ?_
                          refine lv_dup2_11 hx hb dX4_run_130 rfl rfl ?_
                          refine i_iald hx hb hK hP 2 0 rfl rfl (by decide) (by decide) (by decide) dX4_run_131 ?_
                          refine lv_iconst (v := zI 1) hx hb dX4_run_132 rfl ?_
                          refine i_isub hx hb dX4_run_133 ?_
                          refine i_iast hx hb hK hP hD hS 2 0 rfl rfl (by decide) (by decide) (by decide) dX4_run_134 (fun H locs hP hD hS => ?_)
                          have hP : va_P D vwCl [(b 1, ar cI 5 (x 1)), (b 2, ar cI 15 (x 2)), (b 3, ar cI 9 (ui sk2 6 ((sk2 6) - 1))), (b 4, ar cI 3 (x 4)), (b 5, ar cI 3 (x 5)), (b 6, ar cI 3 (ui (ui (x 6) 0 ((x 6 0) + m0)) 1 ((x 6 1) + m1))), (b 7, ar cI 16775 wt), (b 0, ob 4 [iv (x 0 0), iv (x 0 1), .ref (b 1), .ref (b 2), iv (x 0 2), iv (x 0 3), iv (x 0 4), .ref (b 3), .ref (b 4), .ref (b 5), .ref (b 6), iv (x 0 5), .ref (b 7), iv 0])] H := hP
                          have hD : va_D A [(b 1, ar cI 5 (x 1)), (b 2, ar cI 15 (x 2)), (b 3, ar cI 9 (ui sk2 6 ((sk2 6) - 1))), (b 4, ar cI 3 (x 4)), (b 5, ar cI 3 (x 5)), (b 6, ar cI 3 (ui (ui (x 6) 0 ((x 6 0) + m0)) 1 ((x 6 1) + m1))), (b 7, ar cI 16775 wt), (b 0, ob 4 [iv (x 0 0), iv (x 0 1), .ref (b 1), .ref (b 2), iv (x 0 2), iv (x 0 3), iv (x 0 4), .ref (b 3), .ref (b 4), .ref (b 5), .ref (b 6), iv (x 0 5), .ref (b 7), iv 0])] := hD
                          refine i_iinc (n := 1) (lv' := [(4, iv ((n2 : Int) + 1)), (5, iv 6), (3, iv m2), (2, iv 2), (1, iv t1), (0, .ref (b 0))]) hx hb dX4_run_135 hl (k := 1) rfl (by decide) rfl (fun ls hl => ?_)
                          refine lv_goto (tgt := 49) hx hb dX4_run_138 (by decide) ?_
                          exact ih_49 (n2 + 1) (ui sk2 6 ((sk2 6) - 1)) (by omega) (by show _ = ui (decn (skx x 2) n2) (fst (decn (skx x 2) n2)) (decn (skx x 2) n2 (fst (decn (skx x 2) n2)) - 1) 0; rw [hf]; first | exact hv20 | (show sk2 6 - 1 = decn (skx x 2) n2 0 - 1; rw [hv20])) (by show _ = ui (decn (skx x 2) n2) (fst (decn (skx x 2) n2)) (decn (skx x 2) n2 (fst (decn (skx x 2) n2)) - 1) 1; rw [hf]; first | exact hv21 | (show sk2 7 - 1 = decn (skx x 2) n2 1 - 1; rw [hv21])) (by show _ = ui (decn (skx x 2) n2) (fst (decn (skx x 2) n2)) (decn (skx x 2) n2 (fst (decn (skx x 2) n2)) - 1) 2; rw [hf]; first | exact hv22 | (show sk2 8 - 1 = decn (skx x 2) n2 2 - 1; rw [hv22])) (fun c q1 q2 q3 => by rw [ui_n (by omega)]; exact ho2 c q1 q2 q3) (by omega) _ _ (hP.sub [0, 1, 2, 3, 4, 5, 6, 7] rfl) (hD.sub [0, 1, 2, 3, 4, 5, 6, 7] (by decide) rfl) hS ls (lv_sub hl [0, 2, 3, 4, 5] rfl)
                        · skip
                          have hf : fst (decn (skx x 2) n2) = 2 := by unfold fst; rw [hfu, ← hv22, ← hv20]; exact if_pos (by omega)
                          refine lv_iconst (v := zI 3) hx hb dX4_run_112 rfl ?_
                          refine lv_iload_n hx hb dX4_run_113 rfl (lv_at hl 3 rfl) ?_
                          refine i_imul hx hb dX4_run_114 ?_
                          refine i_eqz (y := 6) (by decide) ?_
                          refine lv_iconst (v := zI 2) hx hb dX4_run_115 rfl ?_
                          refine i_iadd hx hb dX4_run_116 ?_
                          refine i_eqz (y := 8) (by decide) ?_
                          refine lv_goto (tgt := 122) hx hb dX4_run_117 (by decide) ?_
                          refine lv_istore (lv' := [(5, iv 8), (4, iv (n2 : Int)), (3, iv m2), (2, iv 2), (1, iv t1), (0, .ref (b 0))]) hx hb dX4_run_122 hl (by decide) rfl (fun ls hl => ?_)
                          refine lv_aload_n hx hb dX4_run_124 rfl (lv_at hl 5 rfl) ?_
                          refine va_get (D := D) (ci := 4) (v := .ref (b 3)) (C := RX4) (T := TX4) (N := 14) hx hb hts inX4 hown hK hP 7 rfl rfl 7 (by decide) w6 (fun _ h9 => h9) rfl dX4_run_125 ?_
                          refine lv_iload hx hb dX4_run_128 (lv_at hl 0 rfl) ?_
                          refine lv_dup2_11 hx hb dX4_run_130 rfl rfl ?_
                          refine i_iald hx hb hK hP 2 0 rfl rfl (by decide) (by decide) (by decide) dX4_run_131 ?_
                          refine lv_iconst (v := zI 1) hx hb dX4_run_132 rfl ?_
                          refine i_isub hx hb dX4_run_133 ?_
                          refine i_iast hx hb hK hP hD hS 2 0 rfl rfl (by decide) (by decide) (by decide) dX4_run_134 (fun H locs hP hD hS => ?_)
                          have hP : va_P D vwCl [(b 1, ar cI 5 (x 1)), (b 2, ar cI 15 (x 2)), (b 3, ar cI 9 (ui sk2 8 ((sk2 8) - 1))), (b 4, ar cI 3 (x 4)), (b 5, ar cI 3 (x 5)), (b 6, ar cI 3 (ui (ui (x 6) 0 ((x 6 0) + m0)) 1 ((x 6 1) + m1))), (b 7, ar cI 16775 wt), (b 0, ob 4 [iv (x 0 0), iv (x 0 1), .ref (b 1), .ref (b 2), iv (x 0 2), iv (x 0 3), iv (x 0 4), .ref (b 3), .ref (b 4), .ref (b 5), .ref (b 6), iv (x 0 5), .ref (b 7), iv 0])] H := hP
                          have hD : va_D A [(b 1, ar cI 5 (x 1)), (b 2, ar cI 15 (x 2)), (b 3, ar cI 9 (ui sk2 8 ((sk2 8) - 1))), (b 4, ar cI 3 (x 4)), (b 5, ar cI 3 (x 5)), (b 6, ar cI 3 (ui (ui (x 6) 0 ((x 6 0) + m0)) 1 ((x 6 1) + m1))), (b 7, ar cI 16775 wt), (b 0, ob 4 [iv (x 0 0), iv (x 0 1), .ref (b 1), .ref (b 2), iv (x 0 2), iv (x 0 3), iv (x 0 4), .ref (b 3), .ref (b 4), .ref (b 5), .ref (b 6), iv (x 0 5), .ref (b 7), iv 0])] := hD
                          refine i_iinc (n := 1) (lv' := [(4, iv ((n2 : Int) + 1)), (5, iv 8), (3, iv m2), (2, iv 2), (1, iv t1), (0, .ref (b 0))]) hx hb dX4_run_135 hl (k := 1) rfl (by decide) rfl (fun ls hl => ?_)
                          refine lv_goto (tgt := 49) hx hb dX4_run_138 (by decide) ?_
                          exact ih_49 (n2 + 1) (ui sk2 8 ((sk2 8) - 1)) (by omega) (by show _ = ui (decn (skx x 2) n2) (fst (decn (skx x 2) n2)) (decn (skx x 2) n2 (fst (decn (skx x 2) n2)) - 1) 0; rw [hf]; first | exact hv20 | (show sk2 6 - 1 = decn (skx x 2) n2 0 - 1; rw [hv20])) (by show _ = ui (decn (skx x 2) n2) (fst (decn (skx x 2) n2)) (decn (skx x 2) n2 (fst (decn (skx x 2) n2)) - 1) 1; rw [hf]; first | exact hv21 | (show sk2 7 - 1 = decn (skx x 2) n2 1 - 1; rw [hv21])) (by show _ = ui (decn (skx x 2) n2) (fst (decn (skx x 2) n2)) (decn (skx x 2) n2 (fst (decn (skx x 2) n2)) - 1) 2; rw [hf]; first | exact hv22 | (show sk2 8 - 1 = decn (skx x 2) n2 2 - 1; rw [hv22])) (fun c q1 q2 q3 => by rw [ui_n (by omega)]; exact ho2 c q1 q2 q3) (by omega) _ _ (hP.sub [0, 1, 2, 3, 4, 5, 6, 7] rfl) (hD.sub [0, 1, 2, 3, 4, 5, 6, 7] (by decide) rfl) hS ls (lv_sub hl [0, 2, 3, 4, 5] rfl)
                      · skip
                        have hfu : fu1 (decn (skx x 2) n2) = 1 := by unfold fu1; rw [← hv20, ← hv21]; exact if_pos (by omega)
                        refine lv_iconst (v := zI 3) hx hb dX4_run_80 rfl ?_
                        refine lv_iload_n hx hb dX4_run_81 rfl (lv_at hl 3 rfl) ?_
                        refine i_imul hx hb dX4_run_82 ?_
                        refine i_eqz (y := 6) (by decide) ?_
                        refine lv_iconst (v := zI 1) hx hb dX4_run_83 rfl ?_
                        refine i_iadd hx hb dX4_run_84 ?_
                        refine i_eqz (y := 7) (by decide) ?_
                        refine lv_goto (tgt := 90) hx hb dX4_run_85 (by decide) ?_
                        refine lv_istore (lv' := [(5, iv 7), (4, iv (n2 : Int)), (3, iv m2), (2, iv 2), (1, iv t1), (0, .ref (b 0))]) hx hb dX4_run_90 hl (by decide) rfl (fun ls hl => ?_)
                        refine lv_aload_n hx hb dX4_run_92 rfl (lv_at hl 5 rfl) ?_
                        refine va_get (D := D) (ci := 4) (v := .ref (b 3)) (C := RX4) (T := TX4) (N := 14) hx hb hts inX4 hown hK hP 7 rfl rfl 7 (by decide) w6 (fun _ h9 => h9) rfl dX4_run_93 ?_
                        refine lv_iconst (v := zI 3) hx hb dX4_run_96 rfl ?_
                        refine lv_iload_n hx hb dX4_run_97 rfl (lv_at hl 3 rfl) ?_
                        refine i_imul hx hb dX4_run_98 ?_
                        refine i_eqz (y := 6) (by decide) ?_
                        refine lv_iconst (v := zI 2) hx hb dX4_run_99 rfl ?_
                        refine i_iadd hx hb dX4_run_100 ?_
                        refine i_eqz (y := 8) (by decide) ?_
                        refine i_iald hx hb hK hP 2 0 rfl rfl (by decide) (by decide) (by decide) dX4_run_101 ?_
                        refine lv_aload_n hx hb dX4_run_102 rfl (lv_at hl 5 rfl) ?_
                        refine va_get (D := D) (ci := 4) (v := .ref (b 3)) (C := RX4) (T := TX4) (N := 14) hx hb hts inX4 hown hK hP 7 rfl rfl 7 (by decide) w6 (fun _ h9 => h9) rfl dX4_run_103 ?_
                        refine lv_iload hx hb dX4_run_106 (lv_at hl 0 rfl) ?_
                        refine i_iald hx hb hK hP 2 0 rfl rfl (by decide) (by decide) (by decide) dX4_run_108 ?_
                        refine i_icmp_le (tgt := 120) hx hb ⟨by omega, by omega⟩ ⟨by omega, by omega⟩ dX4_run_109 (by decide) (fun c_13 => ?_) (fun c_13 => ?_)
                        · skip
                          have hf : fst (decn (skx x 2) n2) = 1 := by unfold fst; rw [hfu, ← hv22, ← hv21]; exact if_neg (by omega)
                          refine lv_iload hx hb dX4_run_120 (lv_at hl 0 rfl) ?_
                          refine lv_istore (lv' := [(5, iv 7), (4, iv (n2 : Int)), (3, iv m2), (2, iv 2), (1, iv t1), (0, .ref (b 0))]) hx hb dX4_run_122 hl (by decide) rfl (fun ls hl => ?_)
                          refine lv_aload_n hx hb dX4_run_124 rfl (lv_at hl 5 rfl) ?_
                          refine va_get (D := D) (ci := 4) (v := .ref (b 3)) (C := RX4) (T := TX4) (N := 14) hx hb hts inX4 hown hK hP 7 rfl rfl 7 (by decide) w6 (fun _ h9 => h9) rfl dX4_run_125 ?_
                          refine lv_iload hx hb dX4_run_128 (lv_at hl 0 rfl) ?_
                          refine lv_dup2_11 hx hb dX4_run_130 rfl rfl ?_
                          refine i_iald hx hb hK hP 2 0 rfl rfl (by decide) (by decide) (by decide) dX4_run_131 ?_
                          refine lv_iconst (v := zI 1) hx hb dX4_run_132 rfl ?_
                          refine i_isub hx hb dX4_run_133 ?_
                          refine i_iast hx hb hK hP hD hS 2 0 rfl rfl (by decide) (by decide) (by decide) dX4_run_134 (fun H locs hP hD hS => ?_)
                          have hP : va_P D vwCl [(b 1, ar cI 5 (x 1)), (b 2, ar cI 15 (x 2)), (b 3, ar cI 9 (ui sk2 7 ((sk2 7) - 1))), (b 4, ar cI 3 (x 4)), (b 5, ar cI 3 (x 5)), (b 6, ar cI 3 (ui (ui (x 6) 0 ((x 6 0) + m0)) 1 ((x 6 1) + m1))), (b 7, ar cI 16775 wt), (b 0, ob 4 [iv (x 0 0), iv (x 0 1), .ref (b 1), .ref (b 2), iv (x 0 2), iv (x 0 3), iv (x 0 4), .ref (b 3), .ref (b 4), .ref (b 5), .ref (b 6), iv (x 0 5), .ref (b 7), iv 0])] H := hP
                          have hD : va_D A [(b 1, ar cI 5 (x 1)), (b 2, ar cI 15 (x 2)), (b 3, ar cI 9 (ui sk2 7 ((sk2 7) - 1))), (b 4, ar cI 3 (x 4)), (b 5, ar cI 3 (x 5)), (b 6, ar cI 3 (ui (ui (x 6) 0 ((x 6 0) + m0)) 1 ((x 6 1) + m1))), (b 7, ar cI 16775 wt), (b 0, ob 4 [iv (x 0 0), iv (x 0 1), .ref (b 1), .ref (b 2), iv (x 0 2), iv (x 0 3), iv (x 0 4), .ref (b 3), .ref (b 4), .ref (b 5), .ref (b 6), iv (x 0 5), .ref (b 7), iv 0])] := hD
                          refine i_iinc (n := 1) (lv' := [(4, iv ((n2 : Int) + 1)), (5, iv 7), (3, iv m2), (2, iv 2), (1, iv t1), (0, .ref (b 0))]) hx hb dX4_run_135 hl (k := 1) rfl (by decide) rfl (fun ls hl => ?_)
                          refine lv_goto (tgt := 49) hx hb dX4_run_138 (by decide) ?_
                          exact ih_49 (n2 + 1) (ui sk2 7 ((sk2 7) - 1)) (by omega) (by show _ = ui (decn (skx x 2) n2) (fst (decn (skx x 2) n2)) (decn (skx x 2) n2 (fst (decn (skx x 2) n2)) - 1) 0; rw [hf]; first | exact hv20 | (show sk2 6 - 1 = decn (skx x 2) n2 0 - 1; rw [hv20])) (by show _ = ui (decn (skx x 2) n2) (fst (decn (skx x 2) n2)) (decn (skx x 2) n2 (fst (decn (skx x 2) n2)) - 1) 1; rw [hf]; first | exact hv21 | (show sk2 7 - 1 = decn (skx x 2) n2 1 - 1; rw [hv21])) (by show _ = ui (decn (skx x 2) n2) (fst (decn (skx x 2) n2)) (decn (skx x 2) n2 (fst (decn (skx x 2) n2)) - 1) 2; rw [hf]; first | exact hv22 | (show sk2 8 - 1 = decn (skx x 2) n2 2 - 1; rw [hv22])) (fun c q1 q2 q3 => by rw [ui_n (by omega)]; exact ho2 c q1 q2 q3) (by omega) _ _ (hP.sub [0, 1, 2, 3, 4, 5, 6, 7] rfl) (hD.sub [0, 1, 2, 3, 4, 5, 6, 7] (by decide) rfl) hS ls (lv_sub hl [0, 2, 3, 4, 5] rfl)
                        · skip
                          have hf : fst (decn (skx x 2) n2) = 2 := by unfold fst; rw [hfu, ← hv22, ← hv21]; exact if_pos (by omega)
                          refine lv_iconst (v := zI 3) hx hb dX4_run_112 rfl ?_
                          refine lv_iload_n hx hb dX4_run_113 rfl (lv_at hl 3 rfl) ?_
                          refine i_imul hx hb dX4_run_114 ?_
                          refine i_eqz (y := 6) (by decide) ?_
                          refine lv_iconst (v := zI 2) hx hb dX4_run_115 rfl ?_
                          refine i_iadd hx hb dX4_run_116 ?_
                          refine i_eqz (y := 8) (by decide) ?_
                          refine lv_goto (tgt := 122) hx hb dX4_run_117 (by decide) ?_
                          refine lv_istore (lv' := [(5, iv 8), (4, iv (n2 : Int)), (3, iv m2), (2, iv 2), (1, iv t1), (0, .ref (b 0))]) hx hb dX4_run_122 hl (by decide) rfl (fun ls hl => ?_)
                          refine lv_aload_n hx hb dX4_run_124 rfl (lv_at hl 5 rfl) ?_
                          refine va_get (D := D) (ci := 4) (v := .ref (b 3)) (C := RX4) (T := TX4) (N := 14) hx hb hts inX4 hown hK hP 7 rfl rfl 7 (by decide) w6 (fun _ h9 => h9) rfl dX4_run_125 ?_
                          refine lv_iload hx hb dX4_run_128 (lv_at hl 0 rfl) ?_
                          refine lv_dup2_11 hx hb dX4_run_130 rfl rfl ?_
                          refine i_iald hx hb hK hP 2 0 rfl rfl (by decide) (by decide) (by decide) dX4_run_131 ?_
                          refine lv_iconst (v := zI 1) hx hb dX4_run_132 rfl ?_
                          refine i_isub hx hb dX4_run_133 ?_
                          refine i_iast hx hb hK hP hD hS 2 0 rfl rfl (by decide) (by decide) (by decide) dX4_run_134 (fun H locs hP hD hS => ?_)
                          have hP : va_P D vwCl [(b 1, ar cI 5 (x 1)), (b 2, ar cI 15 (x 2)), (b 3, ar cI 9 (ui sk2 8 ((sk2 8) - 1))), (b 4, ar cI 3 (x 4)), (b 5, ar cI 3 (x 5)), (b 6, ar cI 3 (ui (ui (x 6) 0 ((x 6 0) + m0)) 1 ((x 6 1) + m1))), (b 7, ar cI 16775 wt), (b 0, ob 4 [iv (x 0 0), iv (x 0 1), .ref (b 1), .ref (b 2), iv (x 0 2), iv (x 0 3), iv (x 0 4), .ref (b 3), .ref (b 4), .ref (b 5), .ref (b 6), iv (x 0 5), .ref (b 7), iv 0])] H := hP
                          have hD : va_D A [(b 1, ar cI 5 (x 1)), (b 2, ar cI 15 (x 2)), (b 3, ar cI 9 (ui sk2 8 ((sk2 8) - 1))), (b 4, ar cI 3 (x 4)), (b 5, ar cI 3 (x 5)), (b 6, ar cI 3 (ui (ui (x 6) 0 ((x 6 0) + m0)) 1 ((x 6 1) + m1))), (b 7, ar cI 16775 wt), (b 0, ob 4 [iv (x 0 0), iv (x 0 1), .ref (b 1), .ref (b 2), iv (x 0 2), iv (x 0 3), iv (x 0 4), .ref (b 3), .ref (b 4), .ref (b 5), .ref (b 6), iv (x 0 5), .ref (b 7), iv 0])] := hD
                          refine i_iinc (n := 1) (lv' := [(4, iv ((n2 : Int) + 1)), (5, iv 8), (3, iv m2), (2, iv 2), (1, iv t1), (0, .ref (b 0))]) hx hb dX4_run_135 hl (k := 1) rfl (by decide) rfl (fun ls hl => ?_)
                          refine lv_goto (tgt := 49) hx hb dX4_run_138 (by decide) ?_
                          exact ih_49 (n2 + 1) (ui sk2 8 ((sk2 8) - 1)) (by omega) (by show _ = ui (decn (skx x 2) n2) (fst (decn (skx x 2) n2)) (decn (skx x 2) n2 (fst (decn (skx x 2) n2)) - 1) 0; rw [hf]; first | exact hv20 | (show sk2 6 - 1 = decn (skx x 2) n2 0 - 1; rw [hv20])) (by show _ = ui (decn (skx x 2) n2) (fst (decn (skx x 2) n2)) (decn (skx x 2) n2 (fst (decn (skx x 2) n2)) - 1) 1; rw [hf]; first | exact hv21 | (show sk2 7 - 1 = decn (skx x 2) n2 1 - 1; rw [hv21])) (by show _ = ui (decn (skx x 2) n2) (fst (decn (skx x 2) n2)) (decn (skx x 2) n2 (fst (decn (skx x 2) n2)) - 1) 2; rw [hf]; first | exact hv22 | (show sk2 8 - 1 = decn (skx x 2) n2 2 - 1; rw [hv22])) (fun c q1 q2 q3 => by rw [ui_n (by omega)]; exact ho2 c q1 q2 q3) (by omega) _ _ (hP.sub [0, 1, 2, 3, 4, 5, 6, 7] rfl) (hD.sub [0, 1, 2, 3, 4, 5, 6, 7] (by decide) rfl) hS ls (lv_sub hl [0, 2, 3, 4, 5] rfl)
                exact J_49 _ 0 sk1 (by omega) ((hp2 6 (by decide) (by decide)).trans (show x 3 6 = x 3 (3 * 2 + 0) by congr 1)) ((hp2 7 (by decide) (by decide)).trans (show x 3 7 = x 3 (3 * 2 + 1) by congr 1)) ((hp2 8 (by decide) (by decide)).trans (show x 3 8 = x 3 (3 * 2 + 2) by congr 1)) (fun c q1 q2 q3 => rfl) (Nat.lt_succ_self _) _ _ (hP.sub [0, 1, 2, 3, 4, 5, 6, 7] rfl) (hD.sub [0, 1, 2, 3, 4, 5, 6, 7] (by decide) rfl) hS ls (lv_sub hl [0, 1, 2, 3, 4] rfl)
              · skip
                have hwn := whl_decn (skx x 1) n1
                have hkn : Nn3 (decn (skx x 1) n1) := decn_nn hs1n n1 (by omega)
                have hwb : whl (decn (skx x 1) n1) ≤ 60 := by omega
                have hb0 := nn3_at hkn hwb (z := 0) (by decide) (by decide)
                rw [← hv10] at hb0
                have hb1 := nn3_at hkn hwb (z := 1) (by decide) (by decide)
                rw [← hv11] at hb1
                have hb2 := nn3_at hkn hwb (z := 2) (by decide) (by decide)
                rw [← hv12] at hb2
                refine lv_iconst (v := zI 3) hx hb dX4_run_55 rfl ?_
                refine lv_iload_n hx hb dX4_run_56 rfl (lv_at hl 2 rfl) ?_
                refine i_imul hx hb dX4_run_57 ?_
                refine i_eqz (y := 3) (by decide) ?_
                refine lv_istore (lv' := [(5, iv 3), (4, iv (n1 : Int)), (3, iv m1), (2, iv 1), (1, iv t0), (0, .ref (b 0))]) hx hb dX4_run_58 hl (by decide) rfl (fun ls hl => ?_)
                refine lv_aload_n hx hb dX4_run_60 rfl (lv_at hl 5 rfl) ?_
                refine va_get (D := D) (ci := 4) (v := .ref (b 3)) (C := RX4) (T := TX4) (N := 14) hx hb hts inX4 hown hK hP 7 rfl rfl 7 (by decide) w6 (fun _ h9 => h9) rfl dX4_run_61 ?_
                refine lv_iconst (v := zI 3) hx hb dX4_run_64 rfl ?_
                refine lv_iload_n hx hb dX4_run_65 rfl (lv_at hl 3 rfl) ?_
                refine i_imul hx hb dX4_run_66 ?_
                refine i_eqz (y := 3) (by decide) ?_
                refine lv_iconst (v := zI 1) hx hb dX4_run_67 rfl ?_
                refine i_iadd hx hb dX4_run_68 ?_
                refine i_eqz (y := 4) (by decide) ?_
                refine i_iald hx hb hK hP 2 0 rfl rfl (by decide) (by decide) (by decide) dX4_run_69 ?_
                refine lv_aload_n hx hb dX4_run_70 rfl (lv_at hl 5 rfl) ?_
                refine va_get (D := D) (ci := 4) (v := .ref (b 3)) (C := RX4) (T := TX4) (N := 14) hx hb hts inX4 hown hK hP 7 rfl rfl 7 (by decide) w6 (fun _ h9 => h9) rfl dX4_run_71 ?_
                refine lv_iload hx hb dX4_run_74 (lv_at hl 0 rfl) ?_
                refine i_iald hx hb hK hP 2 0 rfl rfl (by decide) (by decide) (by decide) dX4_run_76 ?_
                refine i_icmp_le (tgt := 88) hx hb ⟨by omega, by omega⟩ ⟨by omega, by omega⟩ dX4_run_77 (by decide) (fun c_14 => ?_) (fun c_14 => ?_)
                · skip
                  have hfu : fu1 (decn (skx x 1) n1) = 0 := by unfold fu1; rw [← hv10, ← hv11]; exact if_neg (by omega)
                  refine lv_iload hx hb dX4_run_88 (lv_at hl 0 rfl) ?_
                  refine lv_istore (lv' := [(5, iv 3), (4, iv (n1 : Int)), (3, iv m1), (2, iv 1), (1, iv t0), (0, .ref (b 0))]) hx hb dX4_run_90 hl (by decide) rfl (fun ls hl => ?_)
                  refine lv_aload_n hx hb dX4_run_92 rfl (lv_at hl 5 rfl) ?_
                  refine va_get (D := D) (ci := 4) (v := .ref (b 3)) (C := RX4) (T := TX4) (N := 14) hx hb hts inX4 hown hK hP 7 rfl rfl 7 (by decide) w6 (fun _ h9 => h9) rfl dX4_run_93 ?_
                  refine lv_iconst (v := zI 3) hx hb dX4_run_96 rfl ?_
                  refine lv_iload_n hx hb dX4_run_97 rfl (lv_at hl 3 rfl) ?_
                  refine i_imul hx hb dX4_run_98 ?_
                  refine i_eqz (y := 3) (by decide) ?_
                  refine lv_iconst (v := zI 2) hx hb dX4_run_99 rfl ?_
                  refine i_iadd hx hb dX4_run_100 ?_
                  refine i_eqz (y := 5) (by decide) ?_
                  refine i_iald hx hb hK hP 2 0 rfl rfl (by decide) (by decide) (by decide) dX4_run_101 ?_
                  refine lv_aload_n hx hb dX4_run_102 rfl (lv_at hl 5 rfl) ?_
                  refine va_get (D := D) (ci := 4) (v := .ref (b 3)) (C := RX4) (T := TX4) (N := 14) hx hb hts inX4 hown hK hP 7 rfl rfl 7 (by decide) w6 (fun _ h9 => h9) rfl dX4_run_103 ?_
                  refine lv_iload hx hb dX4_run_106 (lv_at hl 0 rfl) ?_
                  refine i_iald hx hb hK hP 2 0 rfl rfl (by decide) (by decide) (by decide) dX4_run_108 ?_
                  refine i_icmp_le (tgt := 120) hx hb ⟨by omega, by omega⟩ ⟨by omega, by omega⟩ dX4_run_109 (by decide) (fun c_15 => ?_) (fun c_15 => ?_)
                  · skip
                    have hf : fst (decn (skx x 1) n1) = 0 := by unfold fst; rw [hfu, ← hv12, ← hv10]; exact if_neg (by omega)
                    refine lv_iload hx hb dX4_run_120 (lv_at hl 0 rfl) ?_
                    refine lv_istore (lv' := [(5, iv 3), (4, iv (n1 : Int)), (3, iv m1), (2, iv 1), (1, iv t0), (0, .ref (b 0))]) hx hb dX4_run_122 hl (by decide) rfl (fun ls hl => ?_)
                    refine lv_aload_n hx hb dX4_run_124 rfl (lv_at hl 5 rfl) ?_
                    refine va_get (D := D) (ci := 4) (v := .ref (b 3)) (C := RX4) (T := TX4) (N := 14) hx hb hts inX4 hown hK hP 7 rfl rfl 7 (by decide) w6 (fun _ h9 => h9) rfl dX4_run_125 ?_
                    refine lv_iload hx hb dX4_run_128 (lv_at hl 0 rfl) ?_
                    refine lv_dup2_11 hx hb dX4_run_130 rfl rfl ?_
                    refine i_iald hx hb hK hP 2 0 rfl rfl (by decide) (by decide) (by decide) dX4_run_131 ?_
                    refine lv_iconst (v := zI 1) hx hb dX4_run_132 rfl ?_
                    refine i_isub hx hb dX4_run_133 ?_
                    refine i_iast hx hb hK hP hD hS 2 0 rfl rfl (by decide) (by decide) (by decide) dX4_run_134 (fun H locs hP hD hS => ?_)
                    have hP : va_P D vwCl [(b 1, ar cI 5 (x 1)), (b 2, ar cI 15 (x 2)), (b 3, ar cI 9 (ui sk1 3 ((sk1 3) - 1))), (b 4, ar cI 3 (x 4)), (b 5, ar cI 3 (x 5)), (b 6, ar cI 3 (ui (x 6) 0 ((x 6 0) + m0))), (b 7, ar cI 16775 wt), (b 0, ob 4 [iv (x 0 0), iv (x 0 1), .ref (b 1), .ref (b 2), iv (x 0 2), iv (x 0 3), iv (x 0 4), .ref (b 3), .ref (b 4), .ref (b 5), .ref (b 6), iv (x 0 5), .ref (b 7), iv 0])] H := hP
                    have hD : va_D A [(b 1, ar cI 5 (x 1)), (b 2, ar cI 15 (x 2)), (b 3, ar cI 9 (ui sk1 3 ((sk1 3) - 1))), (b 4, ar cI 3 (x 4)), (b 5, ar cI 3 (x 5)), (b 6, ar cI 3 (ui (x 6) 0 ((x 6 0) + m0))), (b 7, ar cI 16775 wt), (b 0, ob 4 [iv (x 0 0), iv (x 0 1), .ref (b 1), .ref (b 2), iv (x 0 2), iv (x 0 3), iv (x 0 4), .ref (b 3), .ref (b 4), .ref (b 5), .ref (b 6), iv (x 0 5), .ref (b 7), iv 0])] := hD
                    refine i_iinc (n := 1) (lv' := [(4, iv ((n1 : Int) + 1)), (5, iv 3), (3, iv m1), (2, iv 1), (1, iv t0), (0, .ref (b 0))]) hx hb dX4_run_135 hl (k := 1) rfl (by decide) rfl (fun ls hl => ?_)
                    refine lv_goto (tgt := 49) hx hb dX4_run_138 (by decide) ?_
                    exact ih_49 (n1 + 1) (ui sk1 3 ((sk1 3) - 1)) (by omega) (by show _ = ui (decn (skx x 1) n1) (fst (decn (skx x 1) n1)) (decn (skx x 1) n1 (fst (decn (skx x 1) n1)) - 1) 0; rw [hf]; first | exact hv10 | (show sk1 3 - 1 = decn (skx x 1) n1 0 - 1; rw [hv10])) (by show _ = ui (decn (skx x 1) n1) (fst (decn (skx x 1) n1)) (decn (skx x 1) n1 (fst (decn (skx x 1) n1)) - 1) 1; rw [hf]; first | exact hv11 | (show sk1 4 - 1 = decn (skx x 1) n1 1 - 1; rw [hv11])) (by show _ = ui (decn (skx x 1) n1) (fst (decn (skx x 1) n1)) (decn (skx x 1) n1 (fst (decn (skx x 1) n1)) - 1) 2; rw [hf]; first | exact hv12 | (show sk1 5 - 1 = decn (skx x 1) n1 2 - 1; rw [hv12])) (fun c q1 q2 q3 => by rw [ui_n (by omega)]; exact ho1 c q1 q2 q3) (by omega) _ _ (hP.sub [0, 1, 2, 3, 4, 5, 6, 7] rfl) (hD.sub [0, 1, 2, 3, 4, 5, 6, 7] (by decide) rfl) hS ls (lv_sub hl [0, 2, 3, 4, 5] rfl)
                  · skip
                    have hf : fst (decn (skx x 1) n1) = 2 := by unfold fst; rw [hfu, ← hv12, ← hv10]; exact if_pos (by omega)
                    refine lv_iconst (v := zI 3) hx hb dX4_run_112 rfl ?_
                    refine lv_iload_n hx hb dX4_run_113 rfl (lv_at hl 3 rfl) ?_
                    refine i_imul hx hb dX4_run_114 ?_
                    refine i_eqz (y := 3) (by decide) ?_
                    refine lv_iconst (v := zI 2) hx hb dX4_run_115 rfl ?_
                    refine i_iadd hx hb dX4_run_116 ?_
                    refine i_eqz (y := 5) (by decide) ?_
                    refine lv_goto (tgt := 122) hx hb dX4_run_117 (by decide) ?_
                    refine lv_istore (lv' := [(5, iv 5), (4, iv (n1 : Int)), (3, iv m1), (2, iv 1), (1, iv t0), (0, .ref (b 0))]) hx hb dX4_run_122 hl (by decide) rfl (fun ls hl => ?_)
                    refine lv_aload_n hx hb dX4_run_124 rfl (lv_at hl 5 rfl) ?_
                    refine va_get (D := D) (ci := 4) (v := .ref (b 3)) (C := RX4) (T := TX4) (N := 14) hx hb hts inX4 hown hK hP 7 rfl rfl 7 (by decide) w6 (fun _ h9 => h9) rfl dX4_run_125 ?_
                    refine lv_iload hx hb dX4_run_128 (lv_at hl 0 rfl) ?_
                    refine lv_dup2_11 hx hb dX4_run_130 rfl rfl ?_
                    refine i_iald hx hb hK hP 2 0 rfl rfl (by decide) (by decide) (by decide) dX4_run_131 ?_
                    refine lv_iconst (v := zI 1) hx hb dX4_run_132 rfl ?_
                    refine i_isub hx hb dX4_run_133 ?_
                    refine i_iast hx hb hK hP hD hS 2 0 rfl rfl (by decide) (by decide) (by decide) dX4_run_134 (fun H locs hP hD hS => ?_)
                    have hP : va_P D vwCl [(b 1, ar cI 5 (x 1)), (b 2, ar cI 15 (x 2)), (b 3, ar cI 9 (ui sk1 5 ((sk1 5) - 1))), (b 4, ar cI 3 (x 4)), (b 5, ar cI 3 (x 5)), (b 6, ar cI 3 (ui (x 6) 0 ((x 6 0) + m0))), (b 7, ar cI 16775 wt), (b 0, ob 4 [iv (x 0 0), iv (x 0 1), .ref (b 1), .ref (b 2), iv (x 0 2), iv (x 0 3), iv (x 0 4), .ref (b 3), .ref (b 4), .ref (b 5), .ref (b 6), iv (x 0 5), .ref (b 7), iv 0])] H := hP
                    have hD : va_D A [(b 1, ar cI 5 (x 1)), (b 2, ar cI 15 (x 2)), (b 3, ar cI 9 (ui sk1 5 ((sk1 5) - 1))), (b 4, ar cI 3 (x 4)), (b 5, ar cI 3 (x 5)), (b 6, ar cI 3 (ui (x 6) 0 ((x 6 0) + m0))), (b 7, ar cI 16775 wt), (b 0, ob 4 [iv (x 0 0), iv (x 0 1), .ref (b 1), .ref (b 2), iv (x 0 2), iv (x 0 3), iv (x 0 4), .ref (b 3), .ref (b 4), .ref (b 5), .ref (b 6), iv (x 0 5), .ref (b 7), iv 0])] := hD
                    refine i_iinc (n := 1) (lv' := [(4, iv ((n1 : Int) + 1)), (5, iv 5), (3, iv m1), (2, iv 1), (1, iv t0), (0, .ref (b 0))]) hx hb dX4_run_135 hl (k := 1) rfl (by decide) rfl (fun ls hl => ?_)
                    refine lv_goto (tgt := 49) hx hb dX4_run_138 (by decide) ?_
                    exact ih_49 (n1 + 1) (ui sk1 5 ((sk1 5) - 1)) (by omega) (by show _ = ui (decn (skx x 1) n1) (fst (decn (skx x 1) n1)) (decn (skx x 1) n1 (fst (decn (skx x 1) n1)) - 1) 0; rw [hf]; first | exact hv10 | (show sk1 3 - 1 = decn (skx x 1) n1 0 - 1; rw [hv10])) (by show _ = ui (decn (skx x 1) n1) (fst (decn (skx x 1) n1)) (decn (skx x 1) n1 (fst (decn (skx x 1) n1)) - 1) 1; rw [hf]; first | exact hv11 | (show sk1 4 - 1 = decn (skx x 1) n1 1 - 1; rw [hv11])) (by show _ = ui (decn (skx x 1) n1) (fst (decn (skx x 1) n1)) (decn (skx x 1) n1 (fst (decn (skx x 1) n1)) - 1) 2; rw [hf]; first | exact hv12 | (show sk1 5 - 1 = decn (skx x 1) n1 2 - 1; rw [hv12])) (fun c q1 q2 q3 => by rw [ui_n (by omega)]; exact ho1 c q1 q2 q3) (by omega) _ _ (hP.sub [0, 1, 2, 3, 4, 5, 6, 7] rfl) (hD.sub [0, 1, 2, 3, 4, 5, 6, 7] (by decide) rfl) hS ls (lv_sub hl [0, 2, 3, 4, 5] rfl)
                · skip
                  have hfu : fu1 (decn (skx x 1) n1) = 1 := by unfold fu1; rw [← hv10, ← hv11]; exact if_pos (by omega)
                  refine lv_iconst (v := zI 3) hx hb dX4_run_80 rfl ?_
                  refine lv_iload_n hx hb dX4_run_81 rfl (lv_at hl 3 rfl) ?_
                  refine i_imul hx hb dX4_run_82 ?_
                  refine i_eqz (y := 3) (by decide) ?_
                  refine lv_iconst (v := zI 1) hx hb dX4_run_83 rfl ?_
                  refine i_iadd hx hb dX4_run_84 ?_
                  refine i_eqz (y := 4) (by decide) ?_
                  refine lv_goto (tgt := 90) hx hb dX4_run_85 (by decide) ?_
                  refine lv_istore (lv' := [(5, iv 4), (4, iv (n1 : Int)), (3, iv m1), (2, iv 1), (1, iv t0), (0, .ref (b 0))]) hx hb dX4_run_90 hl (by decide) rfl (fun ls hl => ?_)
                  refine lv_aload_n hx hb dX4_run_92 rfl (lv_at hl 5 rfl) ?_
                  refine va_get (D := D) (ci := 4) (v := .ref (b 3)) (C := RX4) (T := TX4) (N := 14) hx hb hts inX4 hown hK hP 7 rfl rfl 7 (by decide) w6 (fun _ h9 => h9) rfl dX4_run_93 ?_
                  refine lv_iconst (v := zI 3) hx hb dX4_run_96 rfl ?_
                  refine lv_iload_n hx hb dX4_run_97 rfl (lv_at hl 3 rfl) ?_
                  refine i_imul hx hb dX4_run_98 ?_
                  refine i_eqz (y := 3) (by decide) ?_
                  refine lv_iconst (v := zI 2) hx hb dX4_run_99 rfl ?_
                  refine i_iadd hx hb dX4_run_100 ?_
                  refine i_eqz (y := 5) (by decide) ?_
                  refine i_iald hx hb hK hP 2 0 rfl rfl (by decide) (by decide) (by decide) dX4_run_101 ?_
                  refine lv_aload_n hx hb dX4_run_102 rfl (lv_at hl 5 rfl) ?_
                  refine va_get (D := D) (ci := 4) (v := .ref (b 3)) (C := RX4) (T := TX4) (N := 14) hx hb hts inX4 hown hK hP 7 rfl rfl 7 (by decide) w6 (fun _ h9 => h9) rfl dX4_run_103 ?_
                  refine lv_iload hx hb dX4_run_106 (lv_at hl 0 rfl) ?_
                  refine i_iald hx hb hK hP 2 0 rfl rfl (by decide) (by decide) (by decide) dX4_run_108 ?_
                  refine i_icmp_le (tgt := 120) hx hb ⟨by omega, by omega⟩ ⟨by omega, by omega⟩ dX4_run_109 (by decide) (fun c_16 => ?_) (fun c_16 => ?_)
                  · skip
                    have hf : fst (decn (skx x 1) n1) = 1 := by unfold fst; rw [hfu, ← hv12, ← hv11]; exact if_neg (by omega)
                    refine lv_iload hx hb dX4_run_120 (lv_at hl 0 rfl) ?_
                    refine lv_istore (lv' := [(5, iv 4), (4, iv (n1 : Int)), (3, iv m1), (2, iv 1), (1, iv t0), (0, .ref (b 0))]) hx hb dX4_run_122 hl (by decide) rfl (fun ls hl => ?_)
                    refine lv_aload_n hx hb dX4_run_124 rfl (lv_at hl 5 rfl) ?_
                    refine va_get (D := D) (ci := 4) (v := .ref (b 3)) (C := RX4) (T := TX4) (N := 14) hx hb hts inX4 hown hK hP 7 rfl rfl 7 (by decide) w6 (fun _ h9 => h9) rfl dX4_run_125 ?_
                    refine lv_iload hx hb dX4_run_128 (lv_at hl 0 rfl) ?_
                    refine lv_dup2_11 hx hb dX4_run_130 rfl rfl ?_
                    refine i_iald hx hb hK hP 2 0 rfl rfl (by decide) (by decide) (by decide) dX4_run_131 ?_
                    refine lv_iconst (v := zI 1) hx hb dX4_run_132 rfl ?_
                    refine i_isub hx hb dX4_run_133 ?_
                    refine i_iast hx hb hK hP hD hS 2 0 rfl rfl (by decide) (by decide) (by decide) dX4_run_134 (fun H locs hP hD hS => ?_)
                    have hP : va_P D vwCl [(b 1, ar cI 5 (x 1)), (b 2, ar cI 15 (x 2)), (b 3, ar cI 9 (ui sk1 4 ((sk1 4) - 1))), (b 4, ar cI 3 (x 4)), (b 5, ar cI 3 (x 5)), (b 6, ar cI 3 (ui (x 6) 0 ((x 6 0) + m0))), (b 7, ar cI 16775 wt), (b 0, ob 4 [iv (x 0 0), iv (x 0 1), .ref (b 1), .ref (b 2), iv (x 0 2), iv (x 0 3), iv (x 0 4), .ref (b 3), .ref (b 4), .ref (b 5), .ref (b 6), iv (x 0 5), .ref (b 7), iv 0])] H := hP
                    have hD : va_D A [(b 1, ar cI 5 (x 1)), (b 2, ar cI 15 (x 2)), (b 3, ar cI 9 (ui sk1 4 ((sk1 4) - 1))), (b 4, ar cI 3 (x 4)), (b 5, ar cI 3 (x 5)), (b 6, ar cI 3 (ui (x 6) 0 ((x 6 0) + m0))), (b 7, ar cI 16775 wt), (b 0, ob 4 [iv (x 0 0), iv (x 0 1), .ref (b 1), .ref (b 2), iv (x 0 2), iv (x 0 3), iv (x 0 4), .ref (b 3), .ref (b 4), .ref (b 5), .ref (b 6), iv (x 0 5), .ref (b 7), iv 0])] := hD
                    refine i_iinc (n := 1) (lv' := [(4, iv ((n1 : Int) + 1)), (5, iv 4), (3, iv m1), (2, iv 1), (1, iv t0), (0, .ref (b 0))]) hx hb dX4_run_135 hl (k := 1) rfl (by decide) rfl (fun ls hl => ?_)
                    refine lv_goto (tgt := 49) hx hb dX4_run_138 (by decide) ?_
                    exact ih_49 (n1 + 1) (ui sk1 4 ((sk1 4) - 1)) (by omega) (by show _ = ui (decn (skx x 1) n1) (fst (decn (skx x 1) n1)) (decn (skx x 1) n1 (fst (decn (skx x 1) n1)) - 1) 0; rw [hf]; first | exact hv10 | (show sk1 3 - 1 = decn (skx x 1) n1 0 - 1; rw [hv10])) (by show _ = ui (decn (skx x 1) n1) (fst (decn (skx x 1) n1)) (decn (skx x 1) n1 (fst (decn (skx x 1) n1)) - 1) 1; rw [hf]; first | exact hv11 | (show sk1 4 - 1 = decn (skx x 1) n1 1 - 1; rw [hv11])) (by show _ = ui (decn (skx x 1) n1) (fst (decn (skx x 1) n1)) (decn (skx x 1) n1 (fst (decn (skx x 1) n1)) - 1) 2; rw [hf]; first | exact hv12 | (show sk1 5 - 1 = decn (skx x 1) n1 2 - 1; rw [hv12])) (fun c q1 q2 q3 => by rw [ui_n (by omega)]; exact ho1 c q1 q2 q3) (by omega) _ _ (hP.sub [0, 1, 2, 3, 4, 5, 6, 7] rfl) (hD.sub [0, 1, 2, 3, 4, 5, 6, 7] (by decide) rfl) hS ls (lv_sub hl [0, 2, 3, 4, 5] rfl)
                  · skip
                    have hf : fst (decn (skx x 1) n1) = 2 := by unfold fst; rw [hfu, ← hv12, ← hv11]; exact if_pos (by omega)
                    refine lv_iconst (v := zI 3) hx hb dX4_run_112 rfl ?_
                    refine lv_iload_n hx hb dX4_run_113 rfl (lv_at hl 3 rfl) ?_
                    refine i_imul hx hb dX4_run_114 ?_
                    refine i_eqz (y := 3) (by decide) ?_
                    refine lv_iconst (v := zI 2) hx hb dX4_run_115 rfl ?_
                    refine i_iadd hx hb dX4_run_116 ?_
                    refine i_eqz (y := 5) (by decide) ?_
                    refine lv_goto (tgt := 122) hx hb dX4_run_117 (by decide) ?_
                    refine lv_istore (lv' := [(5, iv 5), (4, iv (n1 : Int)), (3, iv m1), (2, iv 1), (1, iv t0), (0, .ref (b 0))]) hx hb dX4_run_122 hl (by decide) rfl (fun ls hl => ?_)
                    refine lv_aload_n hx hb dX4_run_124 rfl (lv_at hl 5 rfl) ?_
                    refine va_get (D := D) (ci := 4) (v := .ref (b 3)) (C := RX4) (T := TX4) (N := 14) hx hb hts inX4 hown hK hP 7 rfl rfl 7 (by decide) w6 (fun _ h9 => h9) rfl dX4_run_125 ?_
                    refine lv_iload hx hb dX4_run_128 (lv_at hl 0 rfl) ?_
                    refine lv_dup2_11 hx hb dX4_run_130 rfl rfl ?_
                    refine i_iald hx hb hK hP 2 0 rfl rfl (by decide) (by decide) (by decide) dX4_run_131 ?_
                    refine lv_iconst (v := zI 1) hx hb dX4_run_132 rfl ?_
                    refine i_isub hx hb dX4_run_133 ?_
                    refine i_iast hx hb hK hP hD hS 2 0 rfl rfl (by decide) (by decide) (by decide) dX4_run_134 (fun H locs hP hD hS => ?_)
                    have hP : va_P D vwCl [(b 1, ar cI 5 (x 1)), (b 2, ar cI 15 (x 2)), (b 3, ar cI 9 (ui sk1 5 ((sk1 5) - 1))), (b 4, ar cI 3 (x 4)), (b 5, ar cI 3 (x 5)), (b 6, ar cI 3 (ui (x 6) 0 ((x 6 0) + m0))), (b 7, ar cI 16775 wt), (b 0, ob 4 [iv (x 0 0), iv (x 0 1), .ref (b 1), .ref (b 2), iv (x 0 2), iv (x 0 3), iv (x 0 4), .ref (b 3), .ref (b 4), .ref (b 5), .ref (b 6), iv (x 0 5), .ref (b 7), iv 0])] H := hP
                    have hD : va_D A [(b 1, ar cI 5 (x 1)), (b 2, ar cI 15 (x 2)), (b 3, ar cI 9 (ui sk1 5 ((sk1 5) - 1))), (b 4, ar cI 3 (x 4)), (b 5, ar cI 3 (x 5)), (b 6, ar cI 3 (ui (x 6) 0 ((x 6 0) + m0))), (b 7, ar cI 16775 wt), (b 0, ob 4 [iv (x 0 0), iv (x 0 1), .ref (b 1), .ref (b 2), iv (x 0 2), iv (x 0 3), iv (x 0 4), .ref (b 3), .ref (b 4), .ref (b 5), .ref (b 6), iv (x 0 5), .ref (b 7), iv 0])] := hD
                    refine i_iinc (n := 1) (lv' := [(4, iv ((n1 : Int) + 1)), (5, iv 5), (3, iv m1), (2, iv 1), (1, iv t0), (0, .ref (b 0))]) hx hb dX4_run_135 hl (k := 1) rfl (by decide) rfl (fun ls hl => ?_)
                    refine lv_goto (tgt := 49) hx hb dX4_run_138 (by decide) ?_
                    exact ih_49 (n1 + 1) (ui sk1 5 ((sk1 5) - 1)) (by omega) (by show _ = ui (decn (skx x 1) n1) (fst (decn (skx x 1) n1)) (decn (skx x 1) n1 (fst (decn (skx x 1) n1)) - 1) 0; rw [hf]; first | exact hv10 | (show sk1 3 - 1 = decn (skx x 1) n1 0 - 1; rw [hv10])) (by show _ = ui (decn (skx x 1) n1) (fst (decn (skx x 1) n1)) (decn (skx x 1) n1 (fst (decn (skx x 1) n1)) - 1) 1; rw [hf]; first | exact hv11 | (show sk1 4 - 1 = decn (skx x 1) n1 1 - 1; rw [hv11])) (by show _ = ui (decn (skx x 1) n1) (fst (decn (skx x 1) n1)) (decn (skx x 1) n1 (fst (decn (skx x 1) n1)) - 1) 2; rw [hf]; first | exact hv12 | (show sk1 5 - 1 = decn (skx x 1) n1 2 - 1; rw [hv12])) (fun c q1 q2 q3 => by rw [ui_n (by omega)]; exact ho1 c q1 q2 q3) (by omega) _ _ (hP.sub [0, 1, 2, 3, 4, 5, 6, 7] rfl) (hD.sub [0, 1, 2, 3, 4, 5, 6, 7] (by decide) rfl) hS ls (lv_sub hl [0, 2, 3, 4, 5] rfl)
          exact J_49 _ 0 sk0 (by omega) ((hp1 3 (by decide) (by decide)).trans (show x 3 3 = x 3 (3 * 1 + 0) by congr 1)) ((hp1 4 (by decide) (by decide)).trans (show x 3 4 = x 3 (3 * 1 + 1) by congr 1)) ((hp1 5 (by decide) (by decide)).trans (show x 3 5 = x 3 (3 * 1 + 2) by congr 1)) (fun c q1 q2 q3 => rfl) (Nat.lt_succ_self _) _ _ (hP.sub [0, 1, 2, 3, 4, 5, 6, 7] rfl) (hD.sub [0, 1, 2, 3, 4, 5, 6, 7] (by decide) rfl) hS ls (lv_sub hl [0, 1, 2, 3, 4] rfl)
        · skip
          have hwn := whl_decn (skx x 0) n0
          have hkn : Nn3 (decn (skx x 0) n0) := decn_nn hs0n n0 (by omega)
          have hwb : whl (decn (skx x 0) n0) ≤ 60 := by omega
          have hb0 := nn3_at hkn hwb (z := 0) (by decide) (by decide)
          rw [← hv00] at hb0
          have hb1 := nn3_at hkn hwb (z := 1) (by decide) (by decide)
          rw [← hv01] at hb1
          have hb2 := nn3_at hkn hwb (z := 2) (by decide) (by decide)
          rw [← hv02] at hb2
          refine lv_iconst (v := zI 3) hx hb dX4_run_55 rfl ?_
          refine lv_iload_n hx hb dX4_run_56 rfl (lv_at hl 2 rfl) ?_
          refine i_imul hx hb dX4_run_57 ?_
          refine i_eqz (y := 0) (by decide) ?_
          refine lv_istore (lv' := [(5, iv 0), (4, iv (n0 : Int)), (3, iv m0), (2, iv 0), (1, iv 0), (0, .ref (b 0))]) hx hb dX4_run_58 hl (by decide) rfl (fun ls hl => ?_)
          refine lv_aload_n hx hb dX4_run_60 rfl (lv_at hl 5 rfl) ?_
          refine va_get (D := D) (ci := 4) (v := .ref (b 3)) (C := RX4) (T := TX4) (N := 14) hx hb hts inX4 hown hK hP 7 rfl rfl 7 (by decide) w6 (fun _ h9 => h9) rfl dX4_run_61 ?_
          refine lv_iconst (v := zI 3) hx hb dX4_run_64 rfl ?_
          refine lv_iload_n hx hb dX4_run_65 rfl (lv_at hl 3 rfl) ?_
          refine i_imul hx hb dX4_run_66 ?_
          refine i_eqz (y := 0) (by decide) ?_
          refine lv_iconst (v := zI 1) hx hb dX4_run_67 rfl ?_
          refine i_iadd hx hb dX4_run_68 ?_
          refine i_eqz (y := 1) (by decide) ?_
          refine i_iald hx hb hK hP 2 0 rfl rfl (by decide) (by decide) (by decide) dX4_run_69 ?_
          refine lv_aload_n hx hb dX4_run_70 rfl (lv_at hl 5 rfl) ?_
          refine va_get (D := D) (ci := 4) (v := .ref (b 3)) (C := RX4) (T := TX4) (N := 14) hx hb hts inX4 hown hK hP 7 rfl rfl 7 (by decide) w6 (fun _ h9 => h9) rfl dX4_run_71 ?_
          refine lv_iload hx hb dX4_run_74 (lv_at hl 0 rfl) ?_
          refine i_iald hx hb hK hP 2 0 rfl rfl (by decide) (by decide) (by decide) dX4_run_76 ?_
          refine i_icmp_le (tgt := 88) hx hb ⟨by omega, by omega⟩ ⟨by omega, by omega⟩ dX4_run_77 (by decide) (fun c_17 => ?_) (fun c_17 => ?_)
          · skip
            have hfu : fu1 (decn (skx x 0) n0) = 0 := by unfold fu1; rw [← hv00, ← hv01]; exact if_neg (by omega)
            refine lv_iload hx hb dX4_run_88 (lv_at hl 0 rfl) ?_
            refine lv_istore (lv' := [(5, iv 0), (4, iv (n0 : Int)), (3, iv m0), (2, iv 0), (1, iv 0), (0, .ref (b 0))]) hx hb dX4_run_90 hl (by decide) rfl (fun ls hl => ?_)
            refine lv_aload_n hx hb dX4_run_92 rfl (lv_at hl 5 rfl) ?_
            refine va_get (D := D) (ci := 4) (v := .ref (b 3)) (C := RX4) (T := TX4) (N := 14) hx hb hts inX4 hown hK hP 7 rfl rfl 7 (by decide) w6 (fun _ h9 => h9) rfl dX4_run_93 ?_
            refine lv_iconst (v := zI 3) hx hb dX4_run_96 rfl ?_
            refine lv_iload_n hx hb dX4_run_97 rfl (lv_at hl 3 rfl) ?_
            refine i_imul hx hb dX4_run_98 ?_
            refine i_eqz (y := 0) (by decide) ?_
            refine lv_iconst (v := zI 2) hx hb dX4_run_99 rfl ?_
            refine i_iadd hx hb dX4_run_100 ?_
            refine i_eqz (y := 2) (by decide) ?_
            refine i_iald hx hb hK hP 2 0 rfl rfl (by decide) (by decide) (by decide) dX4_run_101 ?_
            refine lv_aload_n hx hb dX4_run_102 rfl (lv_at hl 5 rfl) ?_
            refine va_get (D := D) (ci := 4) (v := .ref (b 3)) (C := RX4) (T := TX4) (N := 14) hx hb hts inX4 hown hK hP 7 rfl rfl 7 (by decide) w6 (fun _ h9 => h9) rfl dX4_run_103 ?_
            refine lv_iload hx hb dX4_run_106 (lv_at hl 0 rfl) ?_
            refine i_iald hx hb hK hP 2 0 rfl rfl (by decide) (by decide) (by decide) dX4_run_108 ?_
            refine i_icmp_le (tgt := 120) hx hb ⟨by omega, by omega⟩ ⟨by omega, by omega⟩ dX4_run_109 (by decide) (fun c_18 => ?_) (fun c_18 => ?_)
            · skip
              have hf : fst (decn (skx x 0) n0) = 0 := by unfold fst; rw [hfu, ← hv02, ← hv00]; exact if_neg (by omega)
              refine lv_iload hx hb dX4_run_120 (lv_at hl 0 rfl) ?_
              refine lv_istore (lv' := [(5, iv 0), (4, iv (n0 : Int)), (3, iv m0), (2, iv 0), (1, iv 0), (0, .ref (b 0))]) hx hb dX4_run_122 hl (by decide) rfl (fun ls hl => ?_)
              refine lv_aload_n hx hb dX4_run_124 rfl (lv_at hl 5 rfl) ?_
              refine va_get (D := D) (ci := 4) (v := .ref (b 3)) (C := RX4) (T := TX4) (N := 14) hx hb hts inX4 hown hK hP 7 rfl rfl 7 (by decide) w6 (fun _ h9 => h9) rfl dX4_run_125 ?_
              refine lv_iload hx hb dX4_run_128 (lv_at hl 0 rfl) ?_
              refine lv_dup2_11 hx hb dX4_run_130 rfl rfl ?_
              refine i_iald hx hb hK hP 2 0 rfl rfl (by decide) (by decide) (by decide) dX4_run_131 ?_
              refine lv_iconst (v := zI 1) hx hb dX4_run_132 rfl ?_
              refine i_isub hx hb dX4_run_133 ?_
              refine i_iast hx hb hK hP hD hS 2 0 rfl rfl (by decide) (by decide) (by decide) dX4_run_134 (fun H locs hP hD hS => ?_)
              have hP : va_P D vwCl [(b 1, ar cI 5 (x 1)), (b 2, ar cI 15 (x 2)), (b 3, ar cI 9 (ui sk0 0 ((sk0 0) - 1))), (b 4, ar cI 3 (x 4)), (b 5, ar cI 3 (x 5)), (b 6, ar cI 3 (x 6)), (b 7, ar cI 16775 wt), (b 0, ob 4 [iv (x 0 0), iv (x 0 1), .ref (b 1), .ref (b 2), iv (x 0 2), iv (x 0 3), iv (x 0 4), .ref (b 3), .ref (b 4), .ref (b 5), .ref (b 6), iv (x 0 5), .ref (b 7), iv 0])] H := hP
              have hD : va_D A [(b 1, ar cI 5 (x 1)), (b 2, ar cI 15 (x 2)), (b 3, ar cI 9 (ui sk0 0 ((sk0 0) - 1))), (b 4, ar cI 3 (x 4)), (b 5, ar cI 3 (x 5)), (b 6, ar cI 3 (x 6)), (b 7, ar cI 16775 wt), (b 0, ob 4 [iv (x 0 0), iv (x 0 1), .ref (b 1), .ref (b 2), iv (x 0 2), iv (x 0 3), iv (x 0 4), .ref (b 3), .ref (b 4), .ref (b 5), .ref (b 6), iv (x 0 5), .ref (b 7), iv 0])] := hD
              refine i_iinc (n := 1) (lv' := [(4, iv ((n0 : Int) + 1)), (5, iv 0), (3, iv m0), (2, iv 0), (1, iv 0), (0, .ref (b 0))]) hx hb dX4_run_135 hl (k := 1) rfl (by decide) rfl (fun ls hl => ?_)
              refine lv_goto (tgt := 49) hx hb dX4_run_138 (by decide) ?_
              exact ih_49 (n0 + 1) (ui sk0 0 ((sk0 0) - 1)) (by omega) (by show _ = ui (decn (skx x 0) n0) (fst (decn (skx x 0) n0)) (decn (skx x 0) n0 (fst (decn (skx x 0) n0)) - 1) 0; rw [hf]; first | exact hv00 | (show sk0 0 - 1 = decn (skx x 0) n0 0 - 1; rw [hv00])) (by show _ = ui (decn (skx x 0) n0) (fst (decn (skx x 0) n0)) (decn (skx x 0) n0 (fst (decn (skx x 0) n0)) - 1) 1; rw [hf]; first | exact hv01 | (show sk0 1 - 1 = decn (skx x 0) n0 1 - 1; rw [hv01])) (by show _ = ui (decn (skx x 0) n0) (fst (decn (skx x 0) n0)) (decn (skx x 0) n0 (fst (decn (skx x 0) n0)) - 1) 2; rw [hf]; first | exact hv02 | (show sk0 2 - 1 = decn (skx x 0) n0 2 - 1; rw [hv02])) (fun c q1 q2 q3 => by rw [ui_n (by omega)]; exact ho0 c q1 q2 q3) (by omega) _ _ (hP.sub [0, 1, 2, 3, 4, 5, 6, 7] rfl) (hD.sub [0, 1, 2, 3, 4, 5, 6, 7] (by decide) rfl) hS ls (lv_sub hl [0, 2, 3, 4, 5] rfl)
            · skip
              have hf : fst (decn (skx x 0) n0) = 2 := by unfold fst; rw [hfu, ← hv02, ← hv00]; exact if_pos (by omega)
              refine lv_iconst (v := zI 3) hx hb dX4_run_112 rfl ?_
              refine lv_iload_n hx hb dX4_run_113 rfl (lv_at hl 3 rfl) ?_
              refine i_imul hx hb dX4_run_114 ?_
              refine i_eqz (y := 0) (by decide) ?_
              refine lv_iconst (v := zI 2) hx hb dX4_run_115 rfl ?_
              refine i_iadd hx hb dX4_run_116 ?_
              refine i_eqz (y := 2) (by decide) ?_
              refine lv_goto (tgt := 122) hx hb dX4_run_117 (by decide) ?_
              refine lv_istore (lv' := [(5, iv 2), (4, iv (n0 : Int)), (3, iv m0), (2, iv 0), (1, iv 0), (0, .ref (b 0))]) hx hb dX4_run_122 hl (by decide) rfl (fun ls hl => ?_)
              refine lv_aload_n hx hb dX4_run_124 rfl (lv_at hl 5 rfl) ?_
              refine va_get (D := D) (ci := 4) (v := .ref (b 3)) (C := RX4) (T := TX4) (N := 14) hx hb hts inX4 hown hK hP 7 rfl rfl 7 (by decide) w6 (fun _ h9 => h9) rfl dX4_run_125 ?_
              refine lv_iload hx hb dX4_run_128 (lv_at hl 0 rfl) ?_
              refine lv_dup2_11 hx hb dX4_run_130 rfl rfl ?_
              refine i_iald hx hb hK hP 2 0 rfl rfl (by decide) (by decide) (by decide) dX4_run_131 ?_
              refine lv_iconst (v := zI 1) hx hb dX4_run_132 rfl ?_
              refine i_isub hx hb dX4_run_133 ?_
              refine i_iast hx hb hK hP hD hS 2 0 rfl rfl (by decide) (by decide) (by decide) dX4_run_134 (fun H locs hP hD hS => ?_)
              have hP : va_P D vwCl [(b 1, ar cI 5 (x 1)), (b 2, ar cI 15 (x 2)), (b 3, ar cI 9 (ui sk0 2 ((sk0 2) - 1))), (b 4, ar cI 3 (x 4)), (b 5, ar cI 3 (x 5)), (b 6, ar cI 3 (x 6)), (b 7, ar cI 16775 wt), (b 0, ob 4 [iv (x 0 0), iv (x 0 1), .ref (b 1), .ref (b 2), iv (x 0 2), iv (x 0 3), iv (x 0 4), .ref (b 3), .ref (b 4), .ref (b 5), .ref (b 6), iv (x 0 5), .ref (b 7), iv 0])] H := hP
              have hD : va_D A [(b 1, ar cI 5 (x 1)), (b 2, ar cI 15 (x 2)), (b 3, ar cI 9 (ui sk0 2 ((sk0 2) - 1))), (b 4, ar cI 3 (x 4)), (b 5, ar cI 3 (x 5)), (b 6, ar cI 3 (x 6)), (b 7, ar cI 16775 wt), (b 0, ob 4 [iv (x 0 0), iv (x 0 1), .ref (b 1), .ref (b 2), iv (x 0 2), iv (x 0 3), iv (x 0 4), .ref (b 3), .ref (b 4), .ref (b 5), .ref (b 6), iv (x 0 5), .ref (b 7), iv 0])] := hD
              refine i_iinc (n := 1) (lv' := [(4, iv ((n0 : Int) + 1)), (5, iv 2), (3, iv m0), (2, iv 0), (1, iv 0), (0, .ref (b 0))]) hx hb dX4_run_135 hl (k := 1) rfl (by decide) rfl (fun ls hl => ?_)
              refine lv_goto (tgt := 49) hx hb dX4_run_138 (by decide) ?_
              exact ih_49 (n0 + 1) (ui sk0 2 ((sk0 2) - 1)) (by omega) (by show _ = ui (decn (skx x 0) n0) (fst (decn (skx x 0) n0)) (decn (skx x 0) n0 (fst (decn (skx x 0) n0)) - 1) 0; rw [hf]; first | exact hv00 | (show sk0 0 - 1 = decn (skx x 0) n0 0 - 1; rw [hv00])) (by show _ = ui (decn (skx x 0) n0) (fst (decn (skx x 0) n0)) (decn (skx x 0) n0 (fst (decn (skx x 0) n0)) - 1) 1; rw [hf]; first | exact hv01 | (show sk0 1 - 1 = decn (skx x 0) n0 1 - 1; rw [hv01])) (by show _ = ui (decn (skx x 0) n0) (fst (decn (skx x 0) n0)) (decn (skx x 0) n0 (fst (decn (skx x 0) n0)) - 1) 2; rw [hf]; first | exact hv02 | (show sk0 2 - 1 = decn (skx x 0) n0 2 - 1; rw [hv02])) (fun c q1 q2 q3 => by rw [ui_n (by omega)]; exact ho0 c q1 q2 q3) (by omega) _ _ (hP.sub [0, 1, 2, 3, 4, 5, 6, 7] rfl) (hD.sub [0, 1, 2, 3, 4, 5, 6, 7] (by decide) rfl) hS ls (lv_sub hl [0, 2, 3, 4, 5] rfl)
          · skip
            have hfu : fu1 (decn (skx x 0) n0) = 1 := by unfold fu1; rw [← hv00, ← hv01]; exact if_pos (by omega)
            refine lv_iconst (v := zI 3) hx hb dX4_run_80 rfl ?_
            refine lv_iload_n hx hb dX4_run_81 rfl (lv_at hl 3 rfl) ?_
            refine i_imul hx hb dX4_run_82 ?_
            refine i_eqz (y := 0) (by decide) ?_
            refine lv_iconst (v := zI 1) hx hb dX4_run_83 rfl ?_
            refine i_iadd hx hb dX4_run_84 ?_
            refine i_eqz (y := 1) (by decide) ?_
            refine lv_goto (tgt := 90) hx hb dX4_run_85 (by decide) ?_
            refine lv_istore (lv' := [(5, iv 1), (4, iv (n0 : Int)), (3, iv m0), (2, iv 0), (1, iv 0), (0, .ref (b 0))]) hx hb dX4_run_90 hl (by decide) rfl (fun ls hl => ?_)
            refine lv_aload_n hx hb dX4_run_92 rfl (lv_at hl 5 rfl) ?_
            refine va_get (D := D) (ci := 4) (v := .ref (b 3)) (C := RX4) (T := TX4) (N := 14) hx hb hts inX4 hown hK hP 7 rfl rfl 7 (by decide) w6 (fun _ h9 => h9) rfl dX4_run_93 ?_
            refine lv_iconst (v := zI 3) hx hb dX4_run_96 rfl ?_
            refine lv_iload_n hx hb dX4_run_97 rfl (lv_at hl 3 rfl) ?_
            refine i_imul hx hb dX4_run_98 ?_
            refine i_eqz (y := 0) (by decide) ?_
            refine lv_iconst (v := zI 2) hx hb dX4_run_99 rfl ?_
            refine i_iadd hx hb dX4_run_100 ?_
            refine i_eqz (y := 2) (by decide) ?_
            refine i_iald hx hb hK hP 2 0 rfl rfl (by decide) (by decide) (by decide) dX4_run_101 ?_
            refine lv_aload_n hx hb dX4_run_102 rfl (lv_at hl 5 rfl) ?_
            refine va_get (D := D) (ci := 4) (v := .ref (b 3)) (C := RX4) (T := TX4) (N := 14) hx hb hts inX4 hown hK hP 7 rfl rfl 7 (by decide) w6 (fun _ h9 => h9) rfl dX4_run_103 ?_
            refine lv_iload hx hb dX4_run_106 (lv_at hl 0 rfl) ?_
            refine i_iald hx hb hK hP 2 0 rfl rfl (by decide) (by decide) (by decide) dX4_run_108 ?_
            refine i_icmp_le (tgt := 120) hx hb ⟨by omega, by omega⟩ ⟨by omega, by omega⟩ dX4_run_109 (by decide) (fun c_19 => ?_) (fun c_19 => ?_)
            · skip
              have hf : fst (decn (skx x 0) n0) = 1 := by unfold fst; rw [hfu, ← hv02, ← hv01]; exact if_neg (by omega)
              refine lv_iload hx hb dX4_run_120 (lv_at hl 0 rfl) ?_
              refine lv_istore (lv' := [(5, iv 1), (4, iv (n0 : Int)), (3, iv m0), (2, iv 0), (1, iv 0), (0, .ref (b 0))]) hx hb dX4_run_122 hl (by decide) rfl (fun ls hl => ?_)
              refine lv_aload_n hx hb dX4_run_124 rfl (lv_at hl 5 rfl) ?_
              refine va_get (D := D) (ci := 4) (v := .ref (b 3)) (C := RX4) (T := TX4) (N := 14) hx hb hts inX4 hown hK hP 7 rfl rfl 7 (by decide) w6 (fun _ h9 => h9) rfl dX4_run_125 ?_
              refine lv_iload hx hb dX4_run_128 (lv_at hl 0 rfl) ?_
              refine lv_dup2_11 hx hb dX4_run_130 rfl rfl ?_
              refine i_iald hx hb hK hP 2 0 rfl rfl (by decide) (by decide) (by decide) dX4_run_131 ?_
              refine lv_iconst (v := zI 1) hx hb dX4_run_132 rfl ?_
              refine i_isub hx hb dX4_run_133 ?_
              refine i_iast hx hb hK hP hD hS 2 0 rfl rfl (by decide) (by decide) (by decide) dX4_run_134 (fun H locs hP hD hS => ?_)
              have hP : va_P D vwCl [(b 1, ar cI 5 (x 1)), (b 2, ar cI 15 (x 2)), (b 3, ar cI 9 (ui sk0 1 ((sk0 1) - 1))), (b 4, ar cI 3 (x 4)), (b 5, ar cI 3 (x 5)), (b 6, ar cI 3 (x 6)), (b 7, ar cI 16775 wt), (b 0, ob 4 [iv (x 0 0), iv (x 0 1), .ref (b 1), .ref (b 2), iv (x 0 2), iv (x 0 3), iv (x 0 4), .ref (b 3), .ref (b 4), .ref (b 5), .ref (b 6), iv (x 0 5), .ref (b 7), iv 0])] H := hP
              have hD : va_D A [(b 1, ar cI 5 (x 1)), (b 2, ar cI 15 (x 2)), (b 3, ar cI 9 (ui sk0 1 ((sk0 1) - 1))), (b 4, ar cI 3 (x 4)), (b 5, ar cI 3 (x 5)), (b 6, ar cI 3 (x 6)), (b 7, ar cI 16775 wt), (b 0, ob 4 [iv (x 0 0), iv (x 0 1), .ref (b 1), .ref (b 2), iv (x 0 2), iv (x 0 3), iv (x 0 4), .ref (b 3), .ref (b 4), .ref (b 5), .ref (b 6), iv (x 0 5), .ref (b 7), iv 0])] := hD
              refine i_iinc (n := 1) (lv' := [(4, iv ((n0 : Int) + 1)), (5, iv 1), (3, iv m0), (2, iv 0), (1, iv 0), (0, .ref (b 0))]) hx hb dX4_run_135 hl (k := 1) rfl (by decide) rfl (fun ls hl => ?_)
              refine lv_goto (tgt := 49) hx hb dX4_run_138 (by decide) ?_
              exact ih_49 (n0 + 1) (ui sk0 1 ((sk0 1) - 1)) (by omega) (by show _ = ui (decn (skx x 0) n0) (fst (decn (skx x 0) n0)) (decn (skx x 0) n0 (fst (decn (skx x 0) n0)) - 1) 0; rw [hf]; first | exact hv00 | (show sk0 0 - 1 = decn (skx x 0) n0 0 - 1; rw [hv00])) (by show _ = ui (decn (skx x 0) n0) (fst (decn (skx x 0) n0)) (decn (skx x 0) n0 (fst (decn (skx x 0) n0)) - 1) 1; rw [hf]; first | exact hv01 | (show sk0 1 - 1 = decn (skx x 0) n0 1 - 1; rw [hv01])) (by show _ = ui (decn (skx x 0) n0) (fst (decn (skx x 0) n0)) (decn (skx x 0) n0 (fst (decn (skx x 0) n0)) - 1) 2; rw [hf]; first | exact hv02 | (show sk0 2 - 1 = decn (skx x 0) n0 2 - 1; rw [hv02])) (fun c q1 q2 q3 => by rw [ui_n (by omega)]; exact ho0 c q1 q2 q3) (by omega) _ _ (hP.sub [0, 1, 2, 3, 4, 5, 6, 7] rfl) (hD.sub [0, 1, 2, 3, 4, 5, 6, 7] (by decide) rfl) hS ls (lv_sub hl [0, 2, 3, 4, 5] rfl)
            · skip
              have hf : fst (decn (skx x 0) n0) = 2 := by unfold fst; rw [hfu, ← hv02, ← hv01]; exact if_pos (by omega)
              refine lv_iconst (v := zI 3) hx hb dX4_run_112 rfl ?_
              refine lv_iload_n hx hb dX4_run_113 rfl (lv_at hl 3 rfl) ?_
              refine i_imul hx hb dX4_run_114 ?_
              refine i_eqz (y := 0) (by decide) ?_
              refine lv_iconst (v := zI 2) hx hb dX4_run_115 rfl ?_
              refine i_iadd hx hb dX4_run_116 ?_
              refine i_eqz (y := 2) (by decide) ?_
              refine lv_goto (tgt := 122) hx hb dX4_run_117 (by decide) ?_
              refine lv_istore (lv' := [(5, iv 2), (4, iv (n0 : Int)), (3, iv m0), (2, iv 0), (1, iv 0), (0, .ref (b 0))]) hx hb dX4_run_122 hl (by decide) rfl (fun ls hl => ?_)
              refine lv_aload_n hx hb dX4_run_124 rfl (lv_at hl 5 rfl) ?_
              refine va_get (D := D) (ci := 4) (v := .ref (b 3)) (C := RX4) (T := TX4) (N := 14) hx hb hts inX4 hown hK hP 7 rfl rfl 7 (by decide) w6 (fun _ h9 => h9) rfl dX4_run_125 ?_
              refine lv_iload hx hb dX4_run_128 (lv_at hl 0 rfl) ?_
              refine lv_dup2_11 hx hb dX4_run_130 rfl rfl ?_
              refine i_iald hx hb hK hP 2 0 rfl rfl (by decide) (by decide) (by decide) dX4_run_131 ?_
              refine lv_iconst (v := zI 1) hx hb dX4_run_132 rfl ?_
              refine i_isub hx hb dX4_run_133 ?_
              refine i_iast hx hb hK hP hD hS 2 0 rfl rfl (by decide) (by decide) (by decide) dX4_run_134 (fun H locs hP hD hS => ?_)
              have hP : va_P D vwCl [(b 1, ar cI 5 (x 1)), (b 2, ar cI 15 (x 2)), (b 3, ar cI 9 (ui sk0 2 ((sk0 2) - 1))), (b 4, ar cI 3 (x 4)), (b 5, ar cI 3 (x 5)), (b 6, ar cI 3 (x 6)), (b 7, ar cI 16775 wt), (b 0, ob 4 [iv (x 0 0), iv (x 0 1), .ref (b 1), .ref (b 2), iv (x 0 2), iv (x 0 3), iv (x 0 4), .ref (b 3), .ref (b 4), .ref (b 5), .ref (b 6), iv (x 0 5), .ref (b 7), iv 0])] H := hP
              have hD : va_D A [(b 1, ar cI 5 (x 1)), (b 2, ar cI 15 (x 2)), (b 3, ar cI 9 (ui sk0 2 ((sk0 2) - 1))), (b 4, ar cI 3 (x 4)), (b 5, ar cI 3 (x 5)), (b 6, ar cI 3 (x 6)), (b 7, ar cI 16775 wt), (b 0, ob 4 [iv (x 0 0), iv (x 0 1), .ref (b 1), .ref (b 2), iv (x 0 2), iv (x 0 3), iv (x 0 4), .ref (b 3), .ref (b 4), .ref (b 5), .ref (b 6), iv (x 0 5), .ref (b 7), iv 0])] := hD
              refine i_iinc (n := 1) (lv' := [(4, iv ((n0 : Int) + 1)), (5, iv 2), (3, iv m0), (2, iv 0), (1, iv 0), (0, .ref (b 0))]) hx hb dX4_run_135 hl (k := 1) rfl (by decide) rfl (fun ls hl => ?_)
              refine lv_goto (tgt := 49) hx hb dX4_run_138 (by decide) ?_
              exact ih_49 (n0 + 1) (ui sk0 2 ((sk0 2) - 1)) (by omega) (by show _ = ui (decn (skx x 0) n0) (fst (decn (skx x 0) n0)) (decn (skx x 0) n0 (fst (decn (skx x 0) n0)) - 1) 0; rw [hf]; first | exact hv00 | (show sk0 0 - 1 = decn (skx x 0) n0 0 - 1; rw [hv00])) (by show _ = ui (decn (skx x 0) n0) (fst (decn (skx x 0) n0)) (decn (skx x 0) n0 (fst (decn (skx x 0) n0)) - 1) 1; rw [hf]; first | exact hv01 | (show sk0 1 - 1 = decn (skx x 0) n0 1 - 1; rw [hv01])) (by show _ = ui (decn (skx x 0) n0) (fst (decn (skx x 0) n0)) (decn (skx x 0) n0 (fst (decn (skx x 0) n0)) - 1) 2; rw [hf]; first | exact hv02 | (show sk0 2 - 1 = decn (skx x 0) n0 2 - 1; rw [hv02])) (fun c q1 q2 q3 => by rw [ui_n (by omega)]; exact ho0 c q1 q2 q3) (by omega) _ _ (hP.sub [0, 1, 2, 3, 4, 5, 6, 7] rfl) (hD.sub [0, 1, 2, 3, 4, 5, 6, 7] (by decide) rfl) hS ls (lv_sub hl [0, 2, 3, 4, 5] rfl)
    exact J_49 _ 0 (x 3) (by omega) (rfl) (rfl) (rfl) (fun c q1 q2 q3 => rfl) (Nat.lt_succ_self _) _ _ (hP.sub [0, 1, 2, 3, 4, 5, 6, 7] rfl) (hD.sub [0, 1, 2, 3, 4, 5, 6, 7] (by decide) rfl) hS ls (lv_sub hl [0, 1, 2, 3, 4] rfl)
