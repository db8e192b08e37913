abbrev rm_X3_week : Room := { frames := 0, cells := 0, slots := 0, locals := 0 }
set_option maxHeartbeats 4000000 in
set_option maxRecDepth 100000 in
theorem mt_X3_week (l : Launch) (D : va_G) (cI cS cJ : ClassId) (a : Nat → Nat) (x : Nat → Int → Int) (y : Nat → Int → Int)  : cP l yX3_week wsX3_week rm_X3_week [.ref (a 0)] D (tyL cI cS cJ) [(a 0, ob 3 [.ref (a 1), .ref (a 3), .ref (a 4)]), (a 1, ob 1 [.ref (a 2), iv (x 0 0), iv (x 0 1), iv (x 0 2), iv (x 0 3), iv (x 0 4), iv (x 0 5)]), (a 2, ar cI 5 (x 1)), (a 3, .inl (cS, 3, .inr (.inr (.inr (.inr (fun j => some (a (9 + j)))))))), (a 4, ob 0 [.ref (a 5), .ref (a 6), .ref (a 7), .ref (a 8), iv (y 0 0), iv (y 0 1), iv (y 0 2), iv (y 0 3), iv (y 0 4), iv (y 0 5), iv (y 0 6), iv (y 0 7)]), (a 5, ar cI 5 (y 1)), (a 6, ar cI 5 (y 2)), (a 7, ar cI 3050 (y 3)), (a 8, ar cI 6 (y 4)), (a 9, ob 2 [.ref (a 12), .ref (a 15), iv (x 4 0), iv (x 5 0), iv (x 6 0)]), (a 12, ar cI 5 (fun z : Int => x 2 (5 * 0 + z))), (a 15, ar cI 3 (fun z : Int => x 3 (3 * 0 + z))), (a 10, ob 2 [.ref (a 13), .ref (a 16), iv (x 4 1), iv (x 5 1), iv (x 6 1)]), (a 13, ar cI 5 (fun z : Int => x 2 (5 * 1 + z))), (a 16, ar cI 3 (fun z : Int => x 3 (3 * 1 + z))), (a 11, ob 2 [.ref (a 14), .ref (a 17), iv (x 4 2), iv (x 5 2), iv (x 6 2)]), (a 14, ar cI 5 (fun z : Int => x 2 (5 * 2 + z))), (a 17, ar cI 3 (fun z : Int => x 3 (3 * 2 + z)))] (zI (x 0 1)) := by
  refine en_P (cc := cX3_week) (maxL := 1) (ret := (some .int)) (by decide) rfl (Nat.le_of_ble_eq_true rfl) ?_
  intro p e s m args below meth c ls hX hE hP hK hl Q hQ
  obtain ⟨hx, hb, hr, hml, hts, hown, hlocks, hnm⟩ := hX
  have hown : s.vm.findClass RX3 = some m.cls := hown
  have hl : lv_has ls 1 [(0, .ref (a 0))] := hl
  have inX1 : ∀ w ∈ u_ws RX1 TX1 7, w ∈ wsX3_week := by decide +kernel
  have inX3 : ∀ w ∈ u_ws RX3 TX3 3, w ∈ wsX3_week := by decide +kernel
  have w0 : (Cond.fieldLink RX3 12 RX3 "season" "LMarkdownPlanner$Season;").before args s = true := hts _ (by decide +kernel)
  refine lv_aload_n hx hb dX3_week_0 rfl (lv_at hl 0 rfl) ?_
  refine va_get (D := D) (ci := 3) (v := .ref (a 1)) (C := RX3) (T := TX3) (N := 3) hx hb hts inX3 hown hK hP 0 rfl rfl 0 (by decide) w0 (fun _ h9 => h9) rfl dX3_week_1 ?_
  refine va_getN (D := D) (ci := 1) (v := iv (x 0 1)) (C := RX1) (T := TX1) (N := 7) hx hb hts inX1 hown hK hP 1 rfl rfl 2 (by decide) (hE.at 4 rfl) (fun _ h9 => h9) rfl dX3_week_4 ?_
  subst hQ
  exact r_P hx hb hr hlocks (by rfl) dX3_week_7 (by first | rfl | (congr 1; omega))

abbrev rm_X3_taken : Room := { frames := 0, cells := 0, slots := 0, locals := 0 }
set_option maxHeartbeats 4000000 in
set_option maxRecDepth 100000 in
theorem mt_X3_taken (l : Launch) (D : va_G) (cI cS cJ : ClassId) (a : Nat → Nat) (x : Nat → Int → Int) (y : Nat → Int → Int)  : cP l yX3_taken wsX3_taken rm_X3_taken [.ref (a 0)] D (tyL cI cS cJ) [(a 0, ob 3 [.ref (a 1), .ref (a 3), .ref (a 4)]), (a 1, ob 1 [.ref (a 2), iv (x 0 0), iv (x 0 1), iv (x 0 2), iv (x 0 3), iv (x 0 4), iv (x 0 5)]), (a 2, ar cI 5 (x 1)), (a 3, .inl (cS, 3, .inr (.inr (.inr (.inr (fun j => some (a (9 + j)))))))), (a 4, ob 0 [.ref (a 5), .ref (a 6), .ref (a 7), .ref (a 8), iv (y 0 0), iv (y 0 1), iv (y 0 2), iv (y 0 3), iv (y 0 4), iv (y 0 5), iv (y 0 6), iv (y 0 7)]), (a 5, ar cI 5 (y 1)), (a 6, ar cI 5 (y 2)), (a 7, ar cI 3050 (y 3)), (a 8, ar cI 6 (y 4)), (a 9, ob 2 [.ref (a 12), .ref (a 15), iv (x 4 0), iv (x 5 0), iv (x 6 0)]), (a 12, ar cI 5 (fun z : Int => x 2 (5 * 0 + z))), (a 15, ar cI 3 (fun z : Int => x 3 (3 * 0 + z))), (a 10, ob 2 [.ref (a 13), .ref (a 16), iv (x 4 1), iv (x 5 1), iv (x 6 1)]), (a 13, ar cI 5 (fun z : Int => x 2 (5 * 1 + z))), (a 16, ar cI 3 (fun z : Int => x 3 (3 * 1 + z))), (a 11, ob 2 [.ref (a 14), .ref (a 17), iv (x 4 2), iv (x 5 2), iv (x 6 2)]), (a 14, ar cI 5 (fun z : Int => x 2 (5 * 2 + z))), (a 17, ar cI 3 (fun z : Int => x 3 (3 * 2 + z)))] (zI (x 0 5)) := by
  refine en_P (cc := cX3_taken) (maxL := 1) (ret := (some .int)) (by decide) rfl (Nat.le_of_ble_eq_true rfl) ?_
  intro p e s m args below meth c ls hX hE hP hK hl Q hQ
  obtain ⟨hx, hb, hr, hml, hts, hown, hlocks, hnm⟩ := hX
  have hown : s.vm.findClass RX3 = some m.cls := hown
  have hl : lv_has ls 1 [(0, .ref (a 0))] := hl
  have inX1 : ∀ w ∈ u_ws RX1 TX1 7, w ∈ wsX3_taken := by decide +kernel
  have inX3 : ∀ w ∈ u_ws RX3 TX3 3, w ∈ wsX3_taken := by decide +kernel
  have w0 : (Cond.fieldLink RX3 12 RX3 "season" "LMarkdownPlanner$Season;").before args s = true := hts _ (by decide +kernel)
  refine lv_aload_n hx hb dX3_taken_0 rfl (lv_at hl 0 rfl) ?_
  refine va_get (D := D) (ci := 3) (v := .ref (a 1)) (C := RX3) (T := TX3) (N := 3) hx hb hts inX3 hown hK hP 0 rfl rfl 0 (by decide) w0 (fun _ h9 => h9) rfl dX3_taken_1 ?_
  refine va_getN (D := D) (ci := 1) (v := iv (x 0 5)) (C := RX1) (T := TX1) (N := 7) hx hb hts inX1 hown hK hP 1 rfl rfl 6 (by decide) (hE.at 11 rfl) (fun _ h9 => h9) rfl dX3_taken_4 ?_
  subst hQ
  exact r_P hx hb hr hlocks (by rfl) dX3_taken_7 (by first | rfl | (congr 1; omega))

abbrev rm_X3_stock_0 : Room := { frames := 9, cells := 6, slots := 36, locals := 330 }
set_option maxHeartbeats 4000000 in
set_option maxRecDepth 100000 in
theorem mt_X3_stock_0 (l : Launch) (hst : l.stackTraces = false) (D : va_G) (cI cS cJ : ClassId) (a : Nat → Nat) (x : Nat → Int → Int) (y : Nat → Int → Int) (j : Int) (hI : IX x) (bj : -2147483648 ≤ j ∧ j < 2147483648) : cT l yX3_stock wsX3_stock rm_X3_stock_0 [.ref (a 0), iv 0, iv j] D (tyL cI cS cJ) [(a 0, ob 3 [.ref (a 1), .ref (a 3), .ref (a 4)]), (a 1, ob 1 [.ref (a 2), iv (x 0 0), iv (x 0 1), iv (x 0 2), iv (x 0 3), iv (x 0 4), iv (x 0 5)]), (a 2, ar cI 5 (x 1)), (a 3, .inl (cS, 3, .inr (.inr (.inr (.inr (fun j => some (a (9 + j)))))))), (a 4, ob 0 [.ref (a 5), .ref (a 6), .ref (a 7), .ref (a 8), iv (y 0 0), iv (y 0 1), iv (y 0 2), iv (y 0 3), iv (y 0 4), iv (y 0 5), iv (y 0 6), iv (y 0 7)]), (a 5, ar cI 5 (y 1)), (a 6, ar cI 5 (y 2)), (a 7, ar cI 3050 (y 3)), (a 8, ar cI 6 (y 4)), (a 9, ob 2 [.ref (a 12), .ref (a 15), iv (x 4 0), iv (x 5 0), iv (x 6 0)]), (a 12, ar cI 5 (fun z : Int => x 2 (5 * 0 + z))), (a 15, ar cI 3 (fun z : Int => x 3 (3 * 0 + z))), (a 10, ob 2 [.ref (a 13), .ref (a 16), iv (x 4 1), iv (x 5 1), iv (x 6 1)]), (a 13, ar cI 5 (fun z : Int => x 2 (5 * 1 + z))), (a 16, ar cI 3 (fun z : Int => x 3 (3 * 1 + z))), (a 11, ob 2 [.ref (a 14), .ref (a 17), iv (x 4 2), iv (x 5 2), iv (x 6 2)]), (a 14, ar cI 5 (fun z : Int => x 2 (5 * 2 + z))), (a 17, ar cI 3 (fun z : Int => x 3 (3 * 2 + z)))] (fun r_ => (((0 ≤ (0 : Int) ∧ (0 : Int) < 3) ∧ 0 ≤ j ∧ j < 3)) ∧ r_ = some (iv (x 3 (3 * 0 + j)))) (fun E_ => (E_ = xIA ∧ ¬ ((0 ≤ (0 : Int) ∧ (0 : Int) < 3) ∧ 0 ≤ j ∧ j < 3))) 6 36 := by
  refine en_T (cc := cX3_stock) (maxL := 4) (ret := (some .int)) (by decide) rfl (Nat.le_of_ble_eq_true rfl) ?_
  intro p e s m args below meth c ls hX hE hP hK hZ hnt hl Q hQ
  obtain ⟨hx, hb, hr, hml, hts, hown, hlocks, hnm⟩ := hX
  have hown : s.vm.findClass RX3 = some m.cls := hown
  have hl : lv_has ls 4 [(0, .ref (a 0)), (1, iv 0), (2, iv j)] := hl
  have inX2 : ∀ w ∈ u_ws RX2 TX2 5, w ∈ wsX3_stock := by decide +kernel
  obtain ⟨hx00, hx01, hx02, hx03, hx04, hx1, hx2, hx3, hx4, hx5⟩ := id hI
  obtain ⟨hs0n, hs0w⟩ := ix_sk hI (i := 0) (by decide)
  have hs0t := ix_st hI (i := 0) (by decide)
  have hs0l := ix_la hI (i := 0) (by decide)
  refine lv_aload_n hx hb dX3_stock_0 rfl (lv_at hl 0 rfl) ?_
  refine lv_iload_n hx hb dX3_stock_1 rfl (lv_at hl 1 rfl) ?_
  refine ms_T (vx_runV (As := [iv 0]) (rest := []) ⟨hx, hb, hml, hown, hts⟩ (mt_X3_storeOf_0 l hst D cI cS cJ a (a 0) (a 1) (a 3) (a 4)) (cwV 1 hts gX3_stock_X3_storeOf rfl rfl rfl (by decide +kernel) ⟨Nat.le_of_ble_eq_true rfl, Nat.le_of_ble_eq_true rfl⟩) (pc_V (ci := 3) (q0 := 0) hK (hP.sub (ws' := [(a 0, ob 3 [.ref (a 1), .ref (a 3), .ref (a 4)]), (a 3, .inl (cS, 3, .inr (.inr (.inr (.inr (fun j => some (a (9 + j))))))))]) [0, 3] rfl) rfl rfl (pcT_S hE hK (hP.sub (ws' := [(a 0, ob 3 [.ref (a 1), .ref (a 3), .ref (a 4)]), (a 3, .inl (cS, 3, .inr (.inr (.inr (.inr (fun j => some (a (9 + j))))))))]) [0, 3] rfl) hZ)) rfl rfl hl.1 rfl (lv_room (Nat.le_of_ble_eq_true rfl)) dX3_stock_2 ⟨Nat.le_of_ble_eq_true rfl, Nat.le_of_ble_eq_true rfl⟩) (fun E9 ce9 q9 H1 hTX hz9 hk9 hce hcv hcl => ?_) (fun r_ hq_ => ?_)
  · skip
    subst hQ
    exact r_out hnt hlocks (by first | exact hTX | exact ⟨hTX, by omega⟩ | exact Or.inl ⟨hTX, by omega⟩ | (obtain ⟨e9, h9⟩ := hTX; exact ⟨e9, by omega⟩) | (rcases hTX with ⟨e9, h9⟩ | ⟨e9, h9⟩ <;> first | exact Or.inl ⟨e9, by omega⟩ | exact Or.inr ⟨e9, by omega⟩) | (obtain ⟨e9, h9⟩ := hTX; first | exact Or.inl ⟨e9, by omega⟩ | exact Or.inr ⟨e9, by omega⟩)) hz9 hk9 hce hcv hcl (fun _ h => by cases h) (Nat.le_of_ble_eq_true rfl) (Nat.le_of_ble_eq_true rfl)
  subst hq_
  refine lv_astore_n (lv' := [(3, .ref (a 9)), (0, .ref (a 0)), (1, iv 0), (2, iv j)]) hx hb dX3_stock_5 rfl hl (by decide) rfl (fun ls hl => ?_)
  refine lv_iload_n hx hb dX3_stock_6 rfl (lv_at hl 3 rfl) ?_
  refine ms_T (vx_runS (As := [iv j]) (rest := []) ⟨hx, hb, hml, hown, hts⟩ (mt_X3_requireSize l hst D cI cS cJ j (by omega)) (va_cwS 1 hts gX3_stock_X3_requireSize rfl rfl rfl (by decide +kernel) ⟨Nat.le_of_ble_eq_true rfl, Nat.le_of_ble_eq_true rfl⟩) (pcT_S hE hK (hP.sub (ws' := []) [] rfl) hZ) rfl rfl hl.1 rfl (lv_room (Nat.le_of_ble_eq_true rfl)) dX3_stock_7 ⟨Nat.le_of_ble_eq_true rfl, Nat.le_of_ble_eq_true rfl⟩) (fun E9 ce9 q9 H1 hTX hz9 hk9 hce hcv hcl => ?_) (fun r_ hq_ => ?_)
  · skip
    subst hQ
    exact r_out hnt hlocks (by first | exact hTX | exact ⟨hTX, by omega⟩ | exact Or.inl ⟨hTX, by omega⟩ | (obtain ⟨e9, h9⟩ := hTX; exact ⟨e9, by omega⟩) | (rcases hTX with ⟨e9, h9⟩ | ⟨e9, h9⟩ <;> first | exact Or.inl ⟨e9, by omega⟩ | exact Or.inr ⟨e9, by omega⟩) | (obtain ⟨e9, h9⟩ := hTX; first | exact Or.inl ⟨e9, by omega⟩ | exact Or.inr ⟨e9, by omega⟩)) hz9 hk9 hce hcv hcl (fun _ h => by cases h) (Nat.le_of_ble_eq_true rfl) (Nat.le_of_ble_eq_true rfl)
  obtain ⟨hf_1, rfl⟩ := hq_
  refine lv_aload_n hx hb dX3_stock_10 rfl (lv_at hl 0 rfl) ?_
  refine va_getN (D := D) (ci := 2) (v := .ref (a 15)) (C := RX2) (T := TX2) (N := 5) hx hb hts inX2 hown hK hP 9 rfl rfl 1 (by decide) (hE.at 14 rfl) (fun _ h9 => h9) rfl dX3_stock_11 ?_
  refine lv_iload_n hx hb dX3_stock_14 rfl (lv_at hl 3 rfl) ?_
  refine i_iald hx hb hK hP 11 0 rfl rfl (by omega) (by omega) (by decide) dX3_stock_15 ?_
  subst hQ
  exact r_Ti hx hb hr hlocks (by first | rfl | decide) dX3_stock_16 (⟨(by first | assumption | omega), rfl⟩) (Nat.le_of_ble_eq_true rfl) (Nat.le_of_ble_eq_true rfl)

abbrev rm_X3_stock_1 : Room := { frames := 9, cells := 6, slots := 36, locals := 330 }
set_option maxHeartbeats 4000000 in
set_option maxRecDepth 100000 in
theorem mt_X3_stock_1 (l : Launch) (hst : l.stackTraces = false) (D : va_G) (cI cS cJ : ClassId) (a : Nat → Nat) (x : Nat → Int → Int) (y : Nat → Int → Int) (j : Int) (hI : IX x) (bj : -2147483648 ≤ j ∧ j < 2147483648) : cT l yX3_stock wsX3_stock rm_X3_stock_1 [.ref (a 0), iv 1, iv j] D (tyL cI cS cJ) [(a 0, ob 3 [.ref (a 1), .ref (a 3), .ref (a 4)]), (a 1, ob 1 [.ref (a 2), iv (x 0 0), iv (x 0 1), iv (x 0 2), iv (x 0 3), iv (x 0 4), iv (x 0 5)]), (a 2, ar cI 5 (x 1)), (a 3, .inl (cS, 3, .inr (.inr (.inr (.inr (fun j => some (a (9 + j)))))))), (a 4, ob 0 [.ref (a 5), .ref (a 6), .ref (a 7), .ref (a 8), iv (y 0 0), iv (y 0 1), iv (y 0 2), iv (y 0 3), iv (y 0 4), iv (y 0 5), iv (y 0 6), iv (y 0 7)]), (a 5, ar cI 5 (y 1)), (a 6, ar cI 5 (y 2)), (a 7, ar cI 3050 (y 3)), (a 8, ar cI 6 (y 4)), (a 9, ob 2 [.ref (a 12), .ref (a 15), iv (x 4 0), iv (x 5 0), iv (x 6 0)]), (a 12, ar cI 5 (fun z : Int => x 2 (5 * 0 + z))), (a 15, ar cI 3 (fun z : Int => x 3 (3 * 0 + z))), (a 10, ob 2 [.ref (a 13), .ref (a 16), iv (x 4 1), iv (x 5 1), iv (x 6 1)]), (a 13, ar cI 5 (fun z : Int => x 2 (5 * 1 + z))), (a 16, ar cI 3 (fun z : Int => x 3 (3 * 1 + z))), (a 11, ob 2 [.ref (a 14), .ref (a 17), iv (x 4 2), iv (x 5 2), iv (x 6 2)]), (a 14, ar cI 5 (fun z : Int => x 2 (5 * 2 + z))), (a 17, ar cI 3 (fun z : Int => x 3 (3 * 2 + z)))] (fun r_ => (((0 ≤ (1 : Int) ∧ (1 : Int) < 3) ∧ 0 ≤ j ∧ j < 3)) ∧ r_ = some (iv (x 3 (3 * 1 + j)))) (fun E_ => (E_ = xIA ∧ ¬ ((0 ≤ (1 : Int) ∧ (1 : Int) < 3) ∧ 0 ≤ j ∧ j < 3))) 6 36 := by
  refine en_T (cc := cX3_stock) (maxL := 4) (ret := (some .int)) (by decide) rfl (Nat.le_of_ble_eq_true rfl) ?_
  intro p e s m args below meth c ls hX hE hP hK hZ hnt hl Q hQ
  obtain ⟨hx, hb, hr, hml, hts, hown, hlocks, hnm⟩ := hX
  have hown : s.vm.findClass RX3 = some m.cls := hown
  have hl : lv_has ls 4 [(0, .ref (a 0)), (1, iv 1), (2, iv j)] := hl
  have inX2 : ∀ w ∈ u_ws RX2 TX2 5, w ∈ wsX3_stock := by decide +kernel
  obtain ⟨hx00, hx01, hx02, hx03, hx04, hx1, hx2, hx3, hx4, hx5⟩ := id hI
  obtain ⟨hs1n, hs1w⟩ := ix_sk hI (i := 1) (by decide)
  have hs1t := ix_st hI (i := 1) (by decide)
  have hs1l := ix_la hI (i := 1) (by decide)
  refine lv_aload_n hx hb dX3_stock_0 rfl (lv_at hl 0 rfl) ?_
  refine lv_iload_n hx hb dX3_stock_1 rfl (lv_at hl 1 rfl) ?_
  refine ms_T (vx_runV (As := [iv 1]) (rest := []) ⟨hx, hb, hml, hown, hts⟩ (mt_X3_storeOf_1 l hst D cI cS cJ a (a 0) (a 1) (a 3) (a 4)) (cwV 1 hts gX3_stock_X3_storeOf rfl rfl rfl (by decide +kernel) ⟨Nat.le_of_ble_eq_true rfl, Nat.le_of_ble_eq_true rfl⟩) (pc_V (ci := 3) (q0 := 0) hK (hP.sub (ws' := [(a 0, ob 3 [.ref (a 1), .ref (a 3), .ref (a 4)]), (a 3, .inl (cS, 3, .inr (.inr (.inr (.inr (fun j => some (a (9 + j))))))))]) [0, 3] rfl) rfl rfl (pcT_S hE hK (hP.sub (ws' := [(a 0, ob 3 [.ref (a 1), .ref (a 3), .ref (a 4)]), (a 3, .inl (cS, 3, .inr (.inr (.inr (.inr (fun j => some (a (9 + j))))))))]) [0, 3] rfl) hZ)) rfl rfl hl.1 rfl (lv_room (Nat.le_of_ble_eq_true rfl)) dX3_stock_2 ⟨Nat.le_of_ble_eq_true rfl, Nat.le_of_ble_eq_true rfl⟩) (fun E9 ce9 q9 H1 hTX hz9 hk9 hce hcv hcl => ?_) (fun r_ hq_ => ?_)
  · skip
    subst hQ
    exact r_out hnt hlocks (by first | exact hTX | exact ⟨hTX, by omega⟩ | exact Or.inl ⟨hTX, by omega⟩ | (obtain ⟨e9, h9⟩ := hTX; exact ⟨e9, by omega⟩) | (rcases hTX with ⟨e9, h9⟩ | ⟨e9, h9⟩ <;> first | exact Or.inl ⟨e9, by omega⟩ | exact Or.inr ⟨e9, by omega⟩) | (obtain ⟨e9, h9⟩ := hTX; first | exact Or.inl ⟨e9, by omega⟩ | exact Or.inr ⟨e9, by omega⟩)) hz9 hk9 hce hcv hcl (fun _ h => by cases h) (Nat.le_of_ble_eq_true rfl) (Nat.le_of_ble_eq_true rfl)
  subst hq_
  refine lv_astore_n (lv' := [(3, .ref (a 10)), (0, .ref (a 0)), (1, iv 1), (2, iv j)]) hx hb dX3_stock_5 rfl hl (by decide) rfl (fun ls hl => ?_)
  refine lv_iload_n hx hb dX3_stock_6 rfl (lv_at hl 3 rfl) ?_
  refine ms_T (vx_runS (As := [iv j]) (rest := []) ⟨hx, hb, hml, hown, hts⟩ (mt_X3_requireSize l hst D cI cS cJ j (by omega)) (va_cwS 1 hts gX3_stock_X3_requireSize rfl rfl rfl (by decide +kernel) ⟨Nat.le_of_ble_eq_true rfl, Nat.le_of_ble_eq_true rfl⟩) (pcT_S hE hK (hP.sub (ws' := []) [] rfl) hZ) rfl rfl hl.1 rfl (lv_room (Nat.le_of_ble_eq_true rfl)) dX3_stock_7 ⟨Nat.le_of_ble_eq_true rfl, Nat.le_of_ble_eq_true rfl⟩) (fun E9 ce9 q9 H1 hTX hz9 hk9 hce hcv hcl => ?_) (fun r_ hq_ => ?_)
  · skip
    subst hQ
    exact r_out hnt hlocks (by first | exact hTX | exact ⟨hTX, by omega⟩ | exact Or.inl ⟨hTX, by omega⟩ | (obtain ⟨e9, h9⟩ := hTX; exact ⟨e9, by omega⟩) | (rcases hTX with ⟨e9, h9⟩ | ⟨e9, h9⟩ <;> first | exact Or.inl ⟨e9, by omega⟩ | exact Or.inr ⟨e9, by omega⟩) | (obtain ⟨e9, h9⟩ := hTX; first | exact Or.inl ⟨e9, by omega⟩ | exact Or.inr ⟨e9, by omega⟩)) hz9 hk9 hce hcv hcl (fun _ h => by cases h) (Nat.le_of_ble_eq_true rfl) (Nat.le_of_ble_eq_true rfl)
  obtain ⟨hf_1, rfl⟩ := hq_
  refine lv_aload_n hx hb dX3_stock_10 rfl (lv_at hl 0 rfl) ?_
  refine va_getN (D := D) (ci := 2) (v := .ref (a 16)) (C := RX2) (T := TX2) (N := 5) hx hb hts inX2 hown hK hP 12 rfl rfl 1 (by decide) (hE.at 14 rfl) (fun _ h9 => h9) rfl dX3_stock_11 ?_
  refine lv_iload_n hx hb dX3_stock_14 rfl (lv_at hl 3 rfl) ?_
  refine i_iald hx hb hK hP 14 0 rfl rfl (by omega) (by omega) (by decide) dX3_stock_15 ?_
  subst hQ
  exact r_Ti hx hb hr hlocks (by first | rfl | decide) dX3_stock_16 (⟨(by first | assumption | omega), rfl⟩) (Nat.le_of_ble_eq_true rfl) (Nat.le_of_ble_eq_true rfl)

abbrev rm_X3_stock_2 : Room := { frames := 9, cells := 6, slots := 36, locals := 330 }
set_option maxHeartbeats 4000000 in
set_option maxRecDepth 100000 in
theorem mt_X3_stock_2 (l : Launch) (hst : l.stackTraces = false) (D : va_G) (cI cS cJ : ClassId) (a : Nat → Nat) (x : Nat → Int → Int) (y : Nat → Int → Int) (j : Int) (hI : IX x) (bj : -2147483648 ≤ j ∧ j < 2147483648) : cT l yX3_stock wsX3_stock rm_X3_stock_2 [.ref (a 0), iv 2, iv j] D (tyL cI cS cJ) [(a 0, ob 3 [.ref (a 1), .ref (a 3), .ref (a 4)]), (a 1, ob 1 [.ref (a 2), iv (x 0 0), iv (x 0 1), iv (x 0 2), iv (x 0 3), iv (x 0 4), iv (x 0 5)]), (a 2, ar cI 5 (x 1)), (a 3, .inl (cS, 3, .inr (.inr (.inr (.inr (fun j => some (a (9 + j)))))))), (a 4, ob 0 [.ref (a 5), .ref (a 6), .ref (a 7), .ref (a 8), iv (y 0 0), iv (y 0 1), iv (y 0 2), iv (y 0 3), iv (y 0 4), iv (y 0 5), iv (y 0 6), iv (y 0 7)]), (a 5, ar cI 5 (y 1)), (a 6, ar cI 5 (y 2)), (a 7, ar cI 3050 (y 3)), (a 8, ar cI 6 (y 4)), (a 9, ob 2 [.ref (a 12), .ref (a 15), iv (x 4 0), iv (x 5 0), iv (x 6 0)]), (a 12, ar cI 5 (fun z : Int => x 2 (5 * 0 + z))), (a 15, ar cI 3 (fun z : Int => x 3 (3 * 0 + z))), (a 10, ob 2 [.ref (a 13), .ref (a 16), iv (x 4 1), iv (x 5 1), iv (x 6 1)]), (a 13, ar cI 5 (fun z : Int => x 2 (5 * 1 + z))), (a 16, ar cI 3 (fun z : Int => x 3 (3 * 1 + z))), (a 11, ob 2 [.ref (a 14), .ref (a 17), iv (x 4 2), iv (x 5 2), iv (x 6 2)]), (a 14, ar cI 5 (fun z : Int => x 2 (5 * 2 + z))), (a 17, ar cI 3 (fun z : Int => x 3 (3 * 2 + z)))] (fun r_ => (((0 ≤ (2 : Int) ∧ (2 : Int) < 3) ∧ 0 ≤ j ∧ j < 3)) ∧ r_ = some (iv (x 3 (3 * 2 + j)))) (fun E_ => (E_ = xIA ∧ ¬ ((0 ≤ (2 : Int) ∧ (2 : Int) < 3) ∧ 0 ≤ j ∧ j < 3))) 6 36 := by
  refine en_T (cc := cX3_stock) (maxL := 4) (ret := (some .int)) (by decide) rfl (Nat.le_of_ble_eq_true rfl) ?_
  intro p e s m args below meth c ls hX hE hP hK hZ hnt hl Q hQ
  obtain ⟨hx, hb, hr, hml, hts, hown, hlocks, hnm⟩ := hX
  have hown : s.vm.findClass RX3 = some m.cls := hown
  have hl : lv_has ls 4 [(0, .ref (a 0)), (1, iv 2), (2, iv j)] := hl
  have inX2 : ∀ w ∈ u_ws RX2 TX2 5, w ∈ wsX3_stock := by decide +kernel
  obtain ⟨hx00, hx01, hx02, hx03, hx04, hx1, hx2, hx3, hx4, hx5⟩ := id hI
  obtain ⟨hs2n, hs2w⟩ := ix_sk hI (i := 2) (by decide)
  have hs2t := ix_st hI (i := 2) (by decide)
  have hs2l := ix_la hI (i := 2) (by decide)
  refine lv_aload_n hx hb dX3_stock_0 rfl (lv_at hl 0 rfl) ?_
  refine lv_iload_n hx hb dX3_stock_1 rfl (lv_at hl 1 rfl) ?_
  refine ms_T (vx_runV (As := [iv 2]) (rest := []) ⟨hx, hb, hml, hown, hts⟩ (mt_X3_storeOf_2 l hst D cI cS cJ a (a 0) (a 1) (a 3) (a 4)) (cwV 1 hts gX3_stock_X3_storeOf rfl rfl rfl (by decide +kernel) ⟨Nat.le_of_ble_eq_true rfl, Nat.le_of_ble_eq_true rfl⟩) (pc_V (ci := 3) (q0 := 0) hK (hP.sub (ws' := [(a 0, ob 3 [.ref (a 1), .ref (a 3), .ref (a 4)]), (a 3, .inl (cS, 3, .inr (.inr (.inr (.inr (fun j => some (a (9 + j))))))))]) [0, 3] rfl) rfl rfl (pcT_S hE hK (hP.sub (ws' := [(a 0, ob 3 [.ref (a 1), .ref (a 3), .ref (a 4)]), (a 3, .inl (cS, 3, .inr (.inr (.inr (.inr (fun j => some (a (9 + j))))))))]) [0, 3] rfl) hZ)) rfl rfl hl.1 rfl (lv_room (Nat.le_of_ble_eq_true rfl)) dX3_stock_2 ⟨Nat.le_of_ble_eq_true rfl, Nat.le_of_ble_eq_true rfl⟩) (fun E9 ce9 q9 H1 hTX hz9 hk9 hce hcv hcl => ?_) (fun r_ hq_ => ?_)
  · skip
    subst hQ
    exact r_out hnt hlocks (by first | exact hTX | exact ⟨hTX, by omega⟩ | exact Or.inl ⟨hTX, by omega⟩ | (obtain ⟨e9, h9⟩ := hTX; exact ⟨e9, by omega⟩) | (rcases hTX with ⟨e9, h9⟩ | ⟨e9, h9⟩ <;> first | exact Or.inl ⟨e9, by omega⟩ | exact Or.inr ⟨e9, by omega⟩) | (obtain ⟨e9, h9⟩ := hTX; first | exact Or.inl ⟨e9, by omega⟩ | exact Or.inr ⟨e9, by omega⟩)) hz9 hk9 hce hcv hcl (fun _ h => by cases h) (Nat.le_of_ble_eq_true rfl) (Nat.le_of_ble_eq_true rfl)
  subst hq_
  refine lv_astore_n (lv' := [(3, .ref (a 11)), (0, .ref (a 0)), (1, iv 2), (2, iv j)]) hx hb dX3_stock_5 rfl hl (by decide) rfl (fun ls hl => ?_)
  refine lv_iload_n hx hb dX3_stock_6 rfl (lv_at hl 3 rfl) ?_
  refine ms_T (vx_runS (As := [iv j]) (rest := []) ⟨hx, hb, hml, hown, hts⟩ (mt_X3_requireSize l hst D cI cS cJ j (by omega)) (va_cwS 1 hts gX3_stock_X3_requireSize rfl rfl rfl (by decide +kernel) ⟨Nat.le_of_ble_eq_true rfl, Nat.le_of_ble_eq_true rfl⟩) (pcT_S hE hK (hP.sub (ws' := []) [] rfl) hZ) rfl rfl hl.1 rfl (lv_room (Nat.le_of_ble_eq_true rfl)) dX3_stock_7 ⟨Nat.le_of_ble_eq_true rfl, Nat.le_of_ble_eq_true rfl⟩) (fun E9 ce9 q9 H1 hTX hz9 hk9 hce hcv hcl => ?_) (fun r_ hq_ => ?_)
  · skip
    subst hQ
    exact r_out hnt hlocks (by first | exact hTX | exact ⟨hTX, by omega⟩ | exact Or.inl ⟨hTX, by omega⟩ | (obtain ⟨e9, h9⟩ := hTX; exact ⟨e9, by omega⟩) | (rcases hTX with ⟨e9, h9⟩ | ⟨e9, h9⟩ <;> first | exact Or.inl ⟨e9, by omega⟩ | exact Or.inr ⟨e9, by omega⟩) | (obtain ⟨e9, h9⟩ := hTX; first | exact Or.inl ⟨e9, by omega⟩ | exact Or.inr ⟨e9, by omega⟩)) hz9 hk9 hce hcv hcl (fun _ h => by cases h) (Nat.le_of_ble_eq_true rfl) (Nat.le_of_ble_eq_true rfl)
  obtain ⟨hf_1, rfl⟩ := hq_
  refine lv_aload_n hx hb dX3_stock_10 rfl (lv_at hl 0 rfl) ?_
  refine va_getN (D := D) (ci := 2) (v := .ref (a 17)) (C := RX2) (T := TX2) (N := 5) hx hb hts inX2 hown hK hP 15 rfl rfl 1 (by decide) (hE.at 14 rfl) (fun _ h9 => h9) rfl dX3_stock_11 ?_
  refine lv_iload_n hx hb dX3_stock_14 rfl (lv_at hl 3 rfl) ?_
  refine i_iald hx hb hK hP 17 0 rfl rfl (by omega) (by omega) (by decide) dX3_stock_15 ?_
  subst hQ
  exact r_Ti hx hb hr hlocks (by first | rfl | decide) dX3_stock_16 (⟨(by first | assumption | omega), rfl⟩) (Nat.le_of_ble_eq_true rfl) (Nat.le_of_ble_eq_true rfl)

abbrev rm_X3_stock_out : Room := { frames := 9, cells := 6, slots := 36, locals := 330 }
set_option maxHeartbeats 4000000 in
set_option maxRecDepth 100000 in
theorem mt_X3_stock_out (l : Launch) (hst : l.stackTraces = false) (D : va_G) (cI cS cJ : ClassId) (a : Nat → Nat) (x : Nat → Int → Int) (y : Nat → Int → Int) (i : Int) (j : Int) (hI : IX x) (bi : -2147483648 ≤ i ∧ i < 2147483648) (bj : -2147483648 ≤ j ∧ j < 2147483648) (hno : ¬ (0 ≤ i ∧ i < 3)) : cT l yX3_stock wsX3_stock rm_X3_stock_out [.ref (a 0), iv i, iv j] D (tyL cI cS cJ) [(a 0, ob 3 [.ref (a 1), .ref (a 3), .ref (a 4)]), (a 1, ob 1 [.ref (a 2), iv (x 0 0), iv (x 0 1), iv (x 0 2), iv (x 0 3), iv (x 0 4), iv (x 0 5)]), (a 2, ar cI 5 (x 1)), (a 3, .inl (cS, 3, .inr (.inr (.inr (.inr (fun j => some (a (9 + j)))))))), (a 4, ob 0 [.ref (a 5), .ref (a 6), .ref (a 7), .ref (a 8), iv (y 0 0), iv (y 0 1), iv (y 0 2), iv (y 0 3), iv (y 0 4), iv (y 0 5), iv (y 0 6), iv (y 0 7)]), (a 5, ar cI 5 (y 1)), (a 6, ar cI 5 (y 2)), (a 7, ar cI 3050 (y 3)), (a 8, ar cI 6 (y 4)), (a 9, ob 2 [.ref (a 12), .ref (a 15), iv (x 4 0), iv (x 5 0), iv (x 6 0)]), (a 12, ar cI 5 (fun z : Int => x 2 (5 * 0 + z))), (a 15, ar cI 3 (fun z : Int => x 3 (3 * 0 + z))), (a 10, ob 2 [.ref (a 13), .ref (a 16), iv (x 4 1), iv (x 5 1), iv (x 6 1)]), (a 13, ar cI 5 (fun z : Int => x 2 (5 * 1 + z))), (a 16, ar cI 3 (fun z : Int => x 3 (3 * 1 + z))), (a 11, ob 2 [.ref (a 14), .ref (a 17), iv (x 4 2), iv (x 5 2), iv (x 6 2)]), (a 14, ar cI 5 (fun z : Int => x 2 (5 * 2 + z))), (a 17, ar cI 3 (fun z : Int => x 3 (3 * 2 + z)))] (fun r_ => (((0 ≤ i ∧ i < 3) ∧ 0 ≤ j ∧ j < 3)) ∧ r_ = some (iv (x 3 (3 * i + j)))) (fun E_ => (E_ = xIA ∧ ¬ ((0 ≤ i ∧ i < 3) ∧ 0 ≤ j ∧ j < 3))) 6 36 := by
  refine en_T (cc := cX3_stock) (maxL := 4) (ret := (some .int)) (by decide) rfl (Nat.le_of_ble_eq_true rfl) ?_
  intro p e s m args below meth c ls hX hE hP hK hZ hnt hl Q hQ
  obtain ⟨hx, hb, hr, hml, hts, hown, hlocks, hnm⟩ := hX
  have hown : s.vm.findClass RX3 = some m.cls := hown
  have hl : lv_has ls 4 [(0, .ref (a 0)), (1, iv i), (2, iv j)] := hl
  obtain ⟨hx00, hx01, hx02, hx03, hx04, hx1, hx2, hx3, hx4, hx5⟩ := id hI
  refine lv_aload_n hx hb dX3_stock_0 rfl (lv_at hl 0 rfl) ?_
  refine lv_iload_n hx hb dX3_stock_1 rfl (lv_at hl 1 rfl) ?_
  refine ms_T (vx_runV (As := [iv i]) (rest := []) ⟨hx, hb, hml, hown, hts⟩ (mt_X3_storeOf_out l hst D cI cS cJ a (a 0) (a 1) (a 3) (a 4) i (by omega) (by omega)) (cwV 1 hts gX3_stock_X3_storeOf rfl rfl rfl (by decide +kernel) ⟨Nat.le_of_ble_eq_true rfl, Nat.le_of_ble_eq_true rfl⟩) (pc_V (ci := 3) (q0 := 0) hK (hP.sub (ws' := [(a 0, ob 3 [.ref (a 1), .ref (a 3), .ref (a 4)]), (a 3, .inl (cS, 3, .inr (.inr (.inr (.inr (fun j => some (a (9 + j))))))))]) [0, 3] rfl) rfl rfl (pcT_S hE hK (hP.sub (ws' := [(a 0, ob 3 [.ref (a 1), .ref (a 3), .ref (a 4)]), (a 3, .inl (cS, 3, .inr (.inr (.inr (.inr (fun j => some (a (9 + j))))))))]) [0, 3] rfl) hZ)) rfl rfl hl.1 rfl (lv_room (Nat.le_of_ble_eq_true rfl)) dX3_stock_2 ⟨Nat.le_of_ble_eq_true rfl, Nat.le_of_ble_eq_true rfl⟩) (fun E9 ce9 q9 H1 hTX hz9 hk9 hce hcv hcl => ?_) (fun r_ hq_ => ?_)
  · skip
    subst hQ
    exact r_out hnt hlocks (by first | exact hTX | exact ⟨hTX, by omega⟩ | exact Or.inl ⟨hTX, by omega⟩ | (obtain ⟨e9, h9⟩ := hTX; exact ⟨e9, by omega⟩) | (rcases hTX with ⟨e9, h9⟩ | ⟨e9, h9⟩ <;> first | exact Or.inl ⟨e9, by omega⟩ | exact Or.inr ⟨e9, by omega⟩) | (obtain ⟨e9, h9⟩ := hTX; first | exact Or.inl ⟨e9, by omega⟩ | exact Or.inr ⟨e9, by omega⟩)) hz9 hk9 hce hcv hcl (fun _ h => by cases h) (Nat.le_of_ble_eq_true rfl) (Nat.le_of_ble_eq_true rfl)
  obtain ⟨hf_1, rfl⟩ := hq_
  exact hf_1.elim

abbrev rm_X3_stock : Room := { frames := 9, cells := 6, slots := 36, locals := 330 }
set_option maxHeartbeats 4000000 in
set_option maxRecDepth 100000 in
theorem mt_X3_stock (l : Launch) (hst : l.stackTraces = false) (D : va_G) (cI cS cJ : ClassId) (a : Nat → Nat) (x : Nat → Int → Int) (y : Nat → Int → Int) (i : Int) (j : Int) (hI : IX x) (bi : -2147483648 ≤ i ∧ i < 2147483648) (bj : -2147483648 ≤ j ∧ j < 2147483648) : cT l yX3_stock wsX3_stock rm_X3_stock [.ref (a 0), iv i, iv j] D (tyL cI cS cJ) [(a 0, ob 3 [.ref (a 1), .ref (a 3), .ref (a 4)]), (a 1, ob 1 [.ref (a 2), iv (x 0 0), iv (x 0 1), iv (x 0 2), iv (x 0 3), iv (x 0 4), iv (x 0 5)]), (a 2, ar cI 5 (x 1)), (a 3, .inl (cS, 3, .inr (.inr (.inr (.inr (fun j => some (a (9 + j)))))))), (a 4, ob 0 [.ref (a 5), .ref (a 6), .ref (a 7), .ref (a 8), iv (y 0 0), iv (y 0 1), iv (y 0 2), iv (y 0 3), iv (y 0 4), iv (y 0 5), iv (y 0 6), iv (y 0 7)]), (a 5, ar cI 5 (y 1)), (a 6, ar cI 5 (y 2)), (a 7, ar cI 3050 (y 3)), (a 8, ar cI 6 (y 4)), (a 9, ob 2 [.ref (a 12), .ref (a 15), iv (x 4 0), iv (x 5 0), iv (x 6 0)]), (a 12, ar cI 5 (fun z : Int => x 2 (5 * 0 + z))), (a 15, ar cI 3 (fun z : Int => x 3 (3 * 0 + z))), (a 10, ob 2 [.ref (a 13), .ref (a 16), iv (x 4 1), iv (x 5 1), iv (x 6 1)]), (a 13, ar cI 5 (fun z : Int => x 2 (5 * 1 + z))), (a 16, ar cI 3 (fun z : Int => x 3 (3 * 1 + z))), (a 11, ob 2 [.ref (a 14), .ref (a 17), iv (x 4 2), iv (x 5 2), iv (x 6 2)]), (a 14, ar cI 5 (fun z : Int => x 2 (5 * 2 + z))), (a 17, ar cI 3 (fun z : Int => x 3 (3 * 2 + z)))] (fun r_ => (((0 ≤ i ∧ i < 3) ∧ 0 ≤ j ∧ j < 3)) ∧ r_ = some (iv (x 3 (3 * i + j)))) (fun E_ => (E_ = xIA ∧ ¬ ((0 ≤ i ∧ i < 3) ∧ 0 ≤ j ∧ j < 3))) 6 36 := by
  rcases (show i = 0 ∨ i = 1 ∨ i = 2 ∨ ¬ (0 ≤ i ∧ i < 3) by omega) with rfl | rfl | rfl | hno_i
  · skip
    exact mt_X3_stock_0 l hst D cI cS cJ a x y j hI bj
  · skip
    exact mt_X3_stock_1 l hst D cI cS cJ a x y j hI bj
  · skip
    exact mt_X3_stock_2 l hst D cI cS cJ a x y j hI bj
  · skip
    exact mt_X3_stock_out l hst D cI cS cJ a x y i j hI bi bj hno_i

abbrev rm_X3_step_0 : Room := { frames := 9, cells := 6, slots := 36, locals := 330 }
set_option maxHeartbeats 4000000 in
set_option maxRecDepth 100000 in
theorem mt_X3_step_0 (l : Launch) (hst : l.stackTraces = false) (D : va_G) (cI cS cJ : ClassId) (a : Nat → Nat) (x : Nat → Int → Int) (y : Nat → Int → Int) (hI : IX x) : cT l yX3_step wsX3_step rm_X3_step_0 [.ref (a 0), iv 0] D (tyL cI cS cJ) [(a 0, ob 3 [.ref (a 1), .ref (a 3), .ref (a 4)]), (a 1, ob 1 [.ref (a 2), iv (x 0 0), iv (x 0 1), iv (x 0 2), iv (x 0 3), iv (x 0 4), iv (x 0 5)]), (a 2, ar cI 5 (x 1)), (a 3, .inl (cS, 3, .inr (.inr (.inr (.inr (fun j => some (a (9 + j)))))))), (a 4, ob 0 [.ref (a 5), .ref (a 6), .ref (a 7), .ref (a 8), iv (y 0 0), iv (y 0 1), iv (y 0 2), iv (y 0 3), iv (y 0 4), iv (y 0 5), iv (y 0 6), iv (y 0 7)]), (a 5, ar cI 5 (y 1)), (a 6, ar cI 5 (y 2)), (a 7, ar cI 3050 (y 3)), (a 8, ar cI 6 (y 4)), (a 9, ob 2 [.ref (a 12), .ref (a 15), iv (x 4 0), iv (x 5 0), iv (x 6 0)]), (a 12, ar cI 5 (fun z : Int => x 2 (5 * 0 + z))), (a 15, ar cI 3 (fun z : Int => x 3 (3 * 0 + z))), (a 10, ob 2 [.ref (a 13), .ref (a 16), iv (x 4 1), iv (x 5 1), iv (x 6 1)]), (a 13, ar cI 5 (fun z : Int => x 2 (5 * 1 + z))), (a 16, ar cI 3 (fun z : Int => x 3 (3 * 1 + z))), (a 11, ob 2 [.ref (a 14), .ref (a 17), iv (x 4 2), iv (x 5 2), iv (x 6 2)]), (a 14, ar cI 5 (fun z : Int => x 2 (5 * 2 + z))), (a 17, ar cI 3 (fun z : Int => x 3 (3 * 2 + z)))] (fun r_ => ((0 ≤ (0 : Int) ∧ (0 : Int) < 3)) ∧ r_ = some (iv (x 4 0))) (fun E_ => (E_ = xIA ∧ ¬ (0 ≤ (0 : Int) ∧ (0 : Int) < 3))) 6 36 := by
  refine en_T (cc := cX3_step) (maxL := 2) (ret := (some .int)) (by decide) rfl (Nat.le_of_ble_eq_true rfl) ?_
  intro p e s m args below meth c ls hX hE hP hK hZ hnt hl Q hQ
  obtain ⟨hx, hb, hr, hml, hts, hown, hlocks, hnm⟩ := hX
  have hown : s.vm.findClass RX3 = some m.cls := hown
  have hl : lv_has ls 2 [(0, .ref (a 0)), (1, iv 0)] := hl
  have inX2 : ∀ w ∈ u_ws RX2 TX2 5, w ∈ wsX3_step := by decide +kernel
  obtain ⟨hx00, hx01, hx02, hx03, hx04, hx1, hx2, hx3, hx4, hx5⟩ := id hI
  obtain ⟨hs0n, hs0w⟩ := ix_sk hI (i := 0) (by decide)
  have hs0t := ix_st hI (i := 0) (by decide)
  have hs0l := ix_la hI (i := 0) (by decide)
  refine lv_aload_n hx hb dX3_step_0 rfl (lv_at hl 0 rfl) ?_
  refine lv_iload_n hx hb dX3_step_1 rfl (lv_at hl 1 rfl) ?_
  refine ms_T (vx_runV (As := [iv 0]) (rest := []) ⟨hx, hb, hml, hown, hts⟩ (mt_X3_storeOf_0 l hst D cI cS cJ a (a 0) (a 1) (a 3) (a 4)) (cwV 1 hts gX3_step_X3_storeOf rfl rfl rfl (by decide +kernel) ⟨Nat.le_of_ble_eq_true rfl, Nat.le_of_ble_eq_true rfl⟩) (pc_V (ci := 3) (q0 := 0) hK (hP.sub (ws' := [(a 0, ob 3 [.ref (a 1), .ref (a 3), .ref (a 4)]), (a 3, .inl (cS, 3, .inr (.inr (.inr (.inr (fun j => some (a (9 + j))))))))]) [0, 3] rfl) rfl rfl (pcT_S hE hK (hP.sub (ws' := [(a 0, ob 3 [.ref (a 1), .ref (a 3), .ref (a 4)]), (a 3, .inl (cS, 3, .inr (.inr (.inr (.inr (fun j => some (a (9 + j))))))))]) [0, 3] rfl) hZ)) rfl rfl hl.1 rfl (lv_room (Nat.le_of_ble_eq_true rfl)) dX3_step_2 ⟨Nat.le_of_ble_eq_true rfl, Nat.le_of_ble_eq_true rfl⟩) (fun E9 ce9 q9 H1 hTX hz9 hk9 hce hcv hcl => ?_) (fun r_ hq_ => ?_)
  · skip
    subst hQ
    exact r_out hnt hlocks (by first | exact hTX | exact ⟨hTX, by omega⟩ | exact Or.inl ⟨hTX, by omega⟩ | (obtain ⟨e9, h9⟩ := hTX; exact ⟨e9, by omega⟩) | (rcases hTX with ⟨e9, h9⟩ | ⟨e9, h9⟩ <;> first | exact Or.inl ⟨e9, by omega⟩ | exact Or.inr ⟨e9, by omega⟩) | (obtain ⟨e9, h9⟩ := hTX; first | exact Or.inl ⟨e9, by omega⟩ | exact Or.inr ⟨e9, by omega⟩)) hz9 hk9 hce hcv hcl (fun _ h => by cases h) (Nat.le_of_ble_eq_true rfl) (Nat.le_of_ble_eq_true rfl)
  subst hq_
  refine va_getN (D := D) (ci := 2) (v := iv (x 4 0)) (C := RX2) (T := TX2) (N := 5) hx hb hts inX2 hown hK hP 9 rfl rfl 2 (by decide) (hE.at 16 rfl) (fun _ h9 => h9) rfl dX3_step_5 ?_
  subst hQ
  exact r_Ti hx hb hr hlocks (by first | rfl | decide) dX3_step_8 (⟨(by first | assumption | omega), rfl⟩) (Nat.le_of_ble_eq_true rfl) (Nat.le_of_ble_eq_true rfl)

abbrev rm_X3_step_1 : Room := { frames := 9, cells := 6, slots := 36, locals := 330 }
set_option maxHeartbeats 4000000 in
set_option maxRecDepth 100000 in
theorem mt_X3_step_1 (l : Launch) (hst : l.stackTraces = false) (D : va_G) (cI cS cJ : ClassId) (a : Nat → Nat) (x : Nat → Int → Int) (y : Nat → Int → Int) (hI : IX x) : cT l yX3_step wsX3_step rm_X3_step_1 [.ref (a 0), iv 1] D (tyL cI cS cJ) [(a 0, ob 3 [.ref (a 1), .ref (a 3), .ref (a 4)]), (a 1, ob 1 [.ref (a 2), iv (x 0 0), iv (x 0 1), iv (x 0 2), iv (x 0 3), iv (x 0 4), iv (x 0 5)]), (a 2, ar cI 5 (x 1)), (a 3, .inl (cS, 3, .inr (.inr (.inr (.inr (fun j => some (a (9 + j)))))))), (a 4, ob 0 [.ref (a 5), .ref (a 6), .ref (a 7), .ref (a 8), iv (y 0 0), iv (y 0 1), iv (y 0 2), iv (y 0 3), iv (y 0 4), iv (y 0 5), iv (y 0 6), iv (y 0 7)]), (a 5, ar cI 5 (y 1)), (a 6, ar cI 5 (y 2)), (a 7, ar cI 3050 (y 3)), (a 8, ar cI 6 (y 4)), (a 9, ob 2 [.ref (a 12), .ref (a 15), iv (x 4 0), iv (x 5 0), iv (x 6 0)]), (a 12, ar cI 5 (fun z : Int => x 2 (5 * 0 + z))), (a 15, ar cI 3 (fun z : Int => x 3 (3 * 0 + z))), (a 10, ob 2 [.ref (a 13), .ref (a 16), iv (x 4 1), iv (x 5 1), iv (x 6 1)]), (a 13, ar cI 5 (fun z : Int => x 2 (5 * 1 + z))), (a 16, ar cI 3 (fun z : Int => x 3 (3 * 1 + z))), (a 11, ob 2 [.ref (a 14), .ref (a 17), iv (x 4 2), iv (x 5 2), iv (x 6 2)]), (a 14, ar cI 5 (fun z : Int => x 2 (5 * 2 + z))), (a 17, ar cI 3 (fun z : Int => x 3 (3 * 2 + z)))] (fun r_ => ((0 ≤ (1 : Int) ∧ (1 : Int) < 3)) ∧ r_ = some (iv (x 4 1))) (fun E_ => (E_ = xIA ∧ ¬ (0 ≤ (1 : Int) ∧ (1 : Int) < 3))) 6 36 := by
  refine en_T (cc := cX3_step) (maxL := 2) (ret := (some .int)) (by decide) rfl (Nat.le_of_ble_eq_true rfl) ?_
  intro p e s m args below meth c ls hX hE hP hK hZ hnt hl Q hQ
  obtain ⟨hx, hb, hr, hml, hts, hown, hlocks, hnm⟩ := hX
  have hown : s.vm.findClass RX3 = some m.cls := hown
  have hl : lv_has ls 2 [(0, .ref (a 0)), (1, iv 1)] := hl
  have inX2 : ∀ w ∈ u_ws RX2 TX2 5, w ∈ wsX3_step := by decide +kernel
  obtain ⟨hx00, hx01, hx02, hx03, hx04, hx1, hx2, hx3, hx4, hx5⟩ := id hI
  obtain ⟨hs1n, hs1w⟩ := ix_sk hI (i := 1) (by decide)
  have hs1t := ix_st hI (i := 1) (by decide)
  have hs1l := ix_la hI (i := 1) (by decide)
  refine lv_aload_n hx hb dX3_step_0 rfl (lv_at hl 0 rfl) ?_
  refine lv_iload_n hx hb dX3_step_1 rfl (lv_at hl 1 rfl) ?_
  refine ms_T (vx_runV (As := [iv 1]) (rest := []) ⟨hx, hb, hml, hown, hts⟩ (mt_X3_storeOf_1 l hst D cI cS cJ a (a 0) (a 1) (a 3) (a 4)) (cwV 1 hts gX3_step_X3_storeOf rfl rfl rfl (by decide +kernel) ⟨Nat.le_of_ble_eq_true rfl, Nat.le_of_ble_eq_true rfl⟩) (pc_V (ci := 3) (q0 := 0) hK (hP.sub (ws' := [(a 0, ob 3 [.ref (a 1), .ref (a 3), .ref (a 4)]), (a 3, .inl (cS, 3, .inr (.inr (.inr (.inr (fun j => some (a (9 + j))))))))]) [0, 3] rfl) rfl rfl (pcT_S hE hK (hP.sub (ws' := [(a 0, ob 3 [.ref (a 1), .ref (a 3), .ref (a 4)]), (a 3, .inl (cS, 3, .inr (.inr (.inr (.inr (fun j => some (a (9 + j))))))))]) [0, 3] rfl) hZ)) rfl rfl hl.1 rfl (lv_room (Nat.le_of_ble_eq_true rfl)) dX3_step_2 ⟨Nat.le_of_ble_eq_true rfl, Nat.le_of_ble_eq_true rfl⟩) (fun E9 ce9 q9 H1 hTX hz9 hk9 hce hcv hcl => ?_) (fun r_ hq_ => ?_)
  · skip
    subst hQ
    exact r_out hnt hlocks (by first | exact hTX | exact ⟨hTX, by omega⟩ | exact Or.inl ⟨hTX, by omega⟩ | (obtain ⟨e9, h9⟩ := hTX; exact ⟨e9, by omega⟩) | (rcases hTX with ⟨e9, h9⟩ | ⟨e9, h9⟩ <;> first | exact Or.inl ⟨e9, by omega⟩ | exact Or.inr ⟨e9, by omega⟩) | (obtain ⟨e9, h9⟩ := hTX; first | exact Or.inl ⟨e9, by omega⟩ | exact Or.inr ⟨e9, by omega⟩)) hz9 hk9 hce hcv hcl (fun _ h => by cases h) (Nat.le_of_ble_eq_true rfl) (Nat.le_of_ble_eq_true rfl)
  subst hq_
  refine va_getN (D := D) (ci := 2) (v := iv (x 4 1)) (C := RX2) (T := TX2) (N := 5) hx hb hts inX2 hown hK hP 12 rfl rfl 2 (by decide) (hE.at 16 rfl) (fun _ h9 => h9) rfl dX3_step_5 ?_
  subst hQ
  exact r_Ti hx hb hr hlocks (by first | rfl | decide) dX3_step_8 (⟨(by first | assumption | omega), rfl⟩) (Nat.le_of_ble_eq_true rfl) (Nat.le_of_ble_eq_true rfl)

abbrev rm_X3_step_2 : Room := { frames := 9, cells := 6, slots := 36, locals := 330 }
set_option maxHeartbeats 4000000 in
set_option maxRecDepth 100000 in
theorem mt_X3_step_2 (l : Launch) (hst : l.stackTraces = false) (D : va_G) (cI cS cJ : ClassId) (a : Nat → Nat) (x : Nat → Int → Int) (y : Nat → Int → Int) (hI : IX x) : cT l yX3_step wsX3_step rm_X3_step_2 [.ref (a 0), iv 2] D (tyL cI cS cJ) [(a 0, ob 3 [.ref (a 1), .ref (a 3), .ref (a 4)]), (a 1, ob 1 [.ref (a 2), iv (x 0 0), iv (x 0 1), iv (x 0 2), iv (x 0 3), iv (x 0 4), iv (x 0 5)]), (a 2, ar cI 5 (x 1)), (a 3, .inl (cS, 3, .inr (.inr (.inr (.inr (fun j => some (a (9 + j)))))))), (a 4, ob 0 [.ref (a 5), .ref (a 6), .ref (a 7), .ref (a 8), iv (y 0 0), iv (y 0 1), iv (y 0 2), iv (y 0 3), iv (y 0 4), iv (y 0 5), iv (y 0 6), iv (y 0 7)]), (a 5, ar cI 5 (y 1)), (a 6, ar cI 5 (y 2)), (a 7, ar cI 3050 (y 3)), (a 8, ar cI 6 (y 4)), (a 9, ob 2 [.ref (a 12), .ref (a 15), iv (x 4 0), iv (x 5 0), iv (x 6 0)]), (a 12, ar cI 5 (fun z : Int => x 2 (5 * 0 + z))), (a 15, ar cI 3 (fun z : Int => x 3 (3 * 0 + z))), (a 10, ob 2 [.ref (a 13), .ref (a 16), iv (x 4 1), iv (x 5 1), iv (x 6 1)]), (a 13, ar cI 5 (fun z : Int => x 2 (5 * 1 + z))), (a 16, ar cI 3 (fun z : Int => x 3 (3 * 1 + z))), (a 11, ob 2 [.ref (a 14), .ref (a 17), iv (x 4 2), iv (x 5 2), iv (x 6 2)]), (a 14, ar cI 5 (fun z : Int => x 2 (5 * 2 + z))), (a 17, ar cI 3 (fun z : Int => x 3 (3 * 2 + z)))] (fun r_ => ((0 ≤ (2 : Int) ∧ (2 : Int) < 3)) ∧ r_ = some (iv (x 4 2))) (fun E_ => (E_ = xIA ∧ ¬ (0 ≤ (2 : Int) ∧ (2 : Int) < 3))) 6 36 := by
  refine en_T (cc := cX3_step) (maxL := 2) (ret := (some .int)) (by decide) rfl (Nat.le_of_ble_eq_true rfl) ?_
  intro p e s m args below meth c ls hX hE hP hK hZ hnt hl Q hQ
  obtain ⟨hx, hb, hr, hml, hts, hown, hlocks, hnm⟩ := hX
  have hown : s.vm.findClass RX3 = some m.cls := hown
  have hl : lv_has ls 2 [(0, .ref (a 0)), (1, iv 2)] := hl
  have inX2 : ∀ w ∈ u_ws RX2 TX2 5, w ∈ wsX3_step := by decide +kernel
  obtain ⟨hx00, hx01, hx02, hx03, hx04, hx1, hx2, hx3, hx4, hx5⟩ := id hI
  obtain ⟨hs2n, hs2w⟩ := ix_sk hI (i := 2) (by decide)
  have hs2t := ix_st hI (i := 2) (by decide)
  have hs2l := ix_la hI (i := 2) (by decide)
  refine lv_aload_n hx hb dX3_step_0 rfl (lv_at hl 0 rfl) ?_
  refine lv_iload_n hx hb dX3_step_1 rfl (lv_at hl 1 rfl) ?_
  refine ms_T (vx_runV (As := [iv 2]) (rest := []) ⟨hx, hb, hml, hown, hts⟩ (mt_X3_storeOf_2 l hst D cI cS cJ a (a 0) (a 1) (a 3) (a 4)) (cwV 1 hts gX3_step_X3_storeOf rfl rfl rfl (by decide +kernel) ⟨Nat.le_of_ble_eq_true rfl, Nat.le_of_ble_eq_true rfl⟩) (pc_V (ci := 3) (q0 := 0) hK (hP.sub (ws' := [(a 0, ob 3 [.ref (a 1), .ref (a 3), .ref (a 4)]), (a 3, .inl (cS, 3, .inr (.inr (.inr (.inr (fun j => some (a (9 + j))))))))]) [0, 3] rfl) rfl rfl (pcT_S hE hK (hP.sub (ws' := [(a 0, ob 3 [.ref (a 1), .ref (a 3), .ref (a 4)]), (a 3, .inl (cS, 3, .inr (.inr (.inr (.inr (fun j => some (a (9 + j))))))))]) [0, 3] rfl) hZ)) rfl rfl hl.1 rfl (lv_room (Nat.le_of_ble_eq_true rfl)) dX3_step_2 ⟨Nat.le_of_ble_eq_true rfl, Nat.le_of_ble_eq_true rfl⟩) (fun E9 ce9 q9 H1 hTX hz9 hk9 hce hcv hcl => ?_) (fun r_ hq_ => ?_)
  · skip
    subst hQ
    exact r_out hnt hlocks (by first | exact hTX | exact ⟨hTX, by omega⟩ | exact Or.inl ⟨hTX, by omega⟩ | (obtain ⟨e9, h9⟩ := hTX; exact ⟨e9, by omega⟩) | (rcases hTX with ⟨e9, h9⟩ | ⟨e9, h9⟩ <;> first | exact Or.inl ⟨e9, by omega⟩ | exact Or.inr ⟨e9, by omega⟩) | (obtain ⟨e9, h9⟩ := hTX; first | exact Or.inl ⟨e9, by omega⟩ | exact Or.inr ⟨e9, by omega⟩)) hz9 hk9 hce hcv hcl (fun _ h => by cases h) (Nat.le_of_ble_eq_true rfl) (Nat.le_of_ble_eq_true rfl)
  subst hq_
  refine va_getN (D := D) (ci := 2) (v := iv (x 4 2)) (C := RX2) (T := TX2) (N := 5) hx hb hts inX2 hown hK hP 15 rfl rfl 2 (by decide) (hE.at 16 rfl) (fun _ h9 => h9) rfl dX3_step_5 ?_
  subst hQ
  exact r_Ti hx hb hr hlocks (by first | rfl | decide) dX3_step_8 (⟨(by first | assumption | omega), rfl⟩) (Nat.le_of_ble_eq_true rfl) (Nat.le_of_ble_eq_true rfl)

abbrev rm_X3_step_out : Room := { frames := 9, cells := 6, slots := 36, locals := 330 }
set_option maxHeartbeats 4000000 in
set_option maxRecDepth 100000 in
theorem mt_X3_step_out (l : Launch) (hst : l.stackTraces = false) (D : va_G) (cI cS cJ : ClassId) (a : Nat → Nat) (x : Nat → Int → Int) (y : Nat → Int → Int) (i : Int) (hI : IX x) (bi : -2147483648 ≤ i ∧ i < 2147483648) (hno : ¬ (0 ≤ i ∧ i < 3)) : cT l yX3_step wsX3_step rm_X3_step_out [.ref (a 0), iv i] D (tyL cI cS cJ) [(a 0, ob 3 [.ref (a 1), .ref (a 3), .ref (a 4)]), (a 1, ob 1 [.ref (a 2), iv (x 0 0), iv (x 0 1), iv (x 0 2), iv (x 0 3), iv (x 0 4), iv (x 0 5)]), (a 2, ar cI 5 (x 1)), (a 3, .inl (cS, 3, .inr (.inr (.inr (.inr (fun j => some (a (9 + j)))))))), (a 4, ob 0 [.ref (a 5), .ref (a 6), .ref (a 7), .ref (a 8), iv (y 0 0), iv (y 0 1), iv (y 0 2), iv (y 0 3), iv (y 0 4), iv (y 0 5), iv (y 0 6), iv (y 0 7)]), (a 5, ar cI 5 (y 1)), (a 6, ar cI 5 (y 2)), (a 7, ar cI 3050 (y 3)), (a 8, ar cI 6 (y 4)), (a 9, ob 2 [.ref (a 12), .ref (a 15), iv (x 4 0), iv (x 5 0), iv (x 6 0)]), (a 12, ar cI 5 (fun z : Int => x 2 (5 * 0 + z))), (a 15, ar cI 3 (fun z : Int => x 3 (3 * 0 + z))), (a 10, ob 2 [.ref (a 13), .ref (a 16), iv (x 4 1), iv (x 5 1), iv (x 6 1)]), (a 13, ar cI 5 (fun z : Int => x 2 (5 * 1 + z))), (a 16, ar cI 3 (fun z : Int => x 3 (3 * 1 + z))), (a 11, ob 2 [.ref (a 14), .ref (a 17), iv (x 4 2), iv (x 5 2), iv (x 6 2)]), (a 14, ar cI 5 (fun z : Int => x 2 (5 * 2 + z))), (a 17, ar cI 3 (fun z : Int => x 3 (3 * 2 + z)))] (fun r_ => ((0 ≤ i ∧ i < 3)) ∧ r_ = some (iv (x 4 i))) (fun E_ => (E_ = xIA ∧ ¬ (0 ≤ i ∧ i < 3))) 6 36 := by
  refine en_T (cc := cX3_step) (maxL := 2) (ret := (some .int)) (by decide) rfl (Nat.le_of_ble_eq_true rfl) ?_
  intro p e s m args below meth c ls hX hE hP hK hZ hnt hl Q hQ
  obtain ⟨hx, hb, hr, hml, hts, hown, hlocks, hnm⟩ := hX
  have hown : s.vm.findClass RX3 = some m.cls := hown
  have hl : lv_has ls 2 [(0, .ref (a 0)), (1, iv i)] := hl
  obtain ⟨hx00, hx01, hx02, hx03, hx04, hx1, hx2, hx3, hx4, hx5⟩ := id hI
  refine lv_aload_n hx hb dX3_step_0 rfl (lv_at hl 0 rfl) ?_
  refine lv_iload_n hx hb dX3_step_1 rfl (lv_at hl 1 rfl) ?_
  refine ms_T (vx_runV (As := [iv i]) (rest := []) ⟨hx, hb, hml, hown, hts⟩ (mt_X3_storeOf_out l hst D cI cS cJ a (a 0) (a 1) (a 3) (a 4) i (by omega) (by omega)) (cwV 1 hts gX3_step_X3_storeOf rfl rfl rfl (by decide +kernel) ⟨Nat.le_of_ble_eq_true rfl, Nat.le_of_ble_eq_true rfl⟩) (pc_V (ci := 3) (q0 := 0) hK (hP.sub (ws' := [(a 0, ob 3 [.ref (a 1), .ref (a 3), .ref (a 4)]), (a 3, .inl (cS, 3, .inr (.inr (.inr (.inr (fun j => some (a (9 + j))))))))]) [0, 3] rfl) rfl rfl (pcT_S hE hK (hP.sub (ws' := [(a 0, ob 3 [.ref (a 1), .ref (a 3), .ref (a 4)]), (a 3, .inl (cS, 3, .inr (.inr (.inr (.inr (fun j => some (a (9 + j))))))))]) [0, 3] rfl) hZ)) rfl rfl hl.1 rfl (lv_room (Nat.le_of_ble_eq_true rfl)) dX3_step_2 ⟨Nat.le_of_ble_eq_true rfl, Nat.le_of_ble_eq_true rfl⟩) (fun E9 ce9 q9 H1 hTX hz9 hk9 hce hcv hcl => ?_) (fun r_ hq_ => ?_)
  · skip
    subst hQ
    exact r_out hnt hlocks (by first | exact hTX | exact ⟨hTX, by omega⟩ | exact Or.inl ⟨hTX, by omega⟩ | (obtain ⟨e9, h9⟩ := hTX; exact ⟨e9, by omega⟩) | (rcases hTX with ⟨e9, h9⟩ | ⟨e9, h9⟩ <;> first | exact Or.inl ⟨e9, by omega⟩ | exact Or.inr ⟨e9, by omega⟩) | (obtain ⟨e9, h9⟩ := hTX; first | exact Or.inl ⟨e9, by omega⟩ | exact Or.inr ⟨e9, by omega⟩)) hz9 hk9 hce hcv hcl (fun _ h => by cases h) (Nat.le_of_ble_eq_true rfl) (Nat.le_of_ble_eq_true rfl)
  obtain ⟨hf_1, rfl⟩ := hq_
  exact hf_1.elim

abbrev rm_X3_step : Room := { frames := 9, cells := 6, slots := 36, locals := 330 }
set_option maxHeartbeats 4000000 in
set_option maxRecDepth 100000 in
theorem mt_X3_step (l : Launch) (hst : l.stackTraces = false) (D : va_G) (cI cS cJ : ClassId) (a : Nat → Nat) (x : Nat → Int → Int) (y : Nat → Int → Int) (i : Int) (hI : IX x) (bi : -2147483648 ≤ i ∧ i < 2147483648) : cT l yX3_step wsX3_step rm_X3_step [.ref (a 0), iv i] D (tyL cI cS cJ) [(a 0, ob 3 [.ref (a 1), .ref (a 3), .ref (a 4)]), (a 1, ob 1 [.ref (a 2), iv (x 0 0), iv (x 0 1), iv (x 0 2), iv (x 0 3), iv (x 0 4), iv (x 0 5)]), (a 2, ar cI 5 (x 1)), (a 3, .inl (cS, 3, .inr (.inr (.inr (.inr (fun j => some (a (9 + j)))))))), (a 4, ob 0 [.ref (a 5), .ref (a 6), .ref (a 7), .ref (a 8), iv (y 0 0), iv (y 0 1), iv (y 0 2), iv (y 0 3), iv (y 0 4), iv (y 0 5), iv (y 0 6), iv (y 0 7)]), (a 5, ar cI 5 (y 1)), (a 6, ar cI 5 (y 2)), (a 7, ar cI 3050 (y 3)), (a 8, ar cI 6 (y 4)), (a 9, ob 2 [.ref (a 12), .ref (a 15), iv (x 4 0), iv (x 5 0), iv (x 6 0)]), (a 12, ar cI 5 (fun z : Int => x 2 (5 * 0 + z))), (a 15, ar cI 3 (fun z : Int => x 3 (3 * 0 + z))), (a 10, ob 2 [.ref (a 13), .ref (a 16), iv (x 4 1), iv (x 5 1), iv (x 6 1)]), (a 13, ar cI 5 (fun z : Int => x 2 (5 * 1 + z))), (a 16, ar cI 3 (fun z : Int => x 3 (3 * 1 + z))), (a 11, ob 2 [.ref (a 14), .ref (a 17), iv (x 4 2), iv (x 5 2), iv (x 6 2)]), (a 14, ar cI 5 (fun z : Int => x 2 (5 * 2 + z))), (a 17, ar cI 3 (fun z : Int => x 3 (3 * 2 + z)))] (fun r_ => ((0 ≤ i ∧ i < 3)) ∧ r_ = some (iv (x 4 i))) (fun E_ => (E_ = xIA ∧ ¬ (0 ≤ i ∧ i < 3))) 6 36 := by
  rcases (show i = 0 ∨ i = 1 ∨ i = 2 ∨ ¬ (0 ≤ i ∧ i < 3) by omega) with rfl | rfl | rfl | hno_i
  · skip
    exact mt_X3_step_0 l hst D cI cS cJ a x y  hI
  · skip
    exact mt_X3_step_1 l hst D cI cS cJ a x y  hI
  · skip
    exact mt_X3_step_2 l hst D cI cS cJ a x y  hI
  · skip
    exact mt_X3_step_out l hst D cI cS cJ a x y i hI bi hno_i

abbrev rm_X3_sold_0 : Room := { frames := 9, cells := 6, slots := 36, locals := 330 }
set_option maxHeartbeats 4000000 in
set_option maxRecDepth 100000 in
theorem mt_X3_sold_0 (l : Launch) (hst : l.stackTraces = false) (D : va_G) (cI cS cJ : ClassId) (a : Nat → Nat) (x : Nat → Int → Int) (y : Nat → Int → Int) (hI : IX x) : cT l yX3_sold wsX3_sold rm_X3_sold_0 [.ref (a 0), iv 0] D (tyL cI cS cJ) [(a 0, ob 3 [.ref (a 1), .ref (a 3), .ref (a 4)]), (a 1, ob 1 [.ref (a 2), iv (x 0 0), iv (x 0 1), iv (x 0 2), iv (x 0 3), iv (x 0 4), iv (x 0 5)]), (a 2, ar cI 5 (x 1)), (a 3, .inl (cS, 3, .inr (.inr (.inr (.inr (fun j => some (a (9 + j)))))))), (a 4, ob 0 [.ref (a 5), .ref (a 6), .ref (a 7), .ref (a 8), iv (y 0 0), iv (y 0 1), iv (y 0 2), iv (y 0 3), iv (y 0 4), iv (y 0 5), iv (y 0 6), iv (y 0 7)]), (a 5, ar cI 5 (y 1)), (a 6, ar cI 5 (y 2)), (a 7, ar cI 3050 (y 3)), (a 8, ar cI 6 (y 4)), (a 9, ob 2 [.ref (a 12), .ref (a 15), iv (x 4 0), iv (x 5 0), iv (x 6 0)]), (a 12, ar cI 5 (fun z : Int => x 2 (5 * 0 + z))), (a 15, ar cI 3 (fun z : Int => x 3 (3 * 0 + z))), (a 10, ob 2 [.ref (a 13), .ref (a 16), iv (x 4 1), iv (x 5 1), iv (x 6 1)]), (a 13, ar cI 5 (fun z : Int => x 2 (5 * 1 + z))), (a 16, ar cI 3 (fun z : Int => x 3 (3 * 1 + z))), (a 11, ob 2 [.ref (a 14), .ref (a 17), iv (x 4 2), iv (x 5 2), iv (x 6 2)]), (a 14, ar cI 5 (fun z : Int => x 2 (5 * 2 + z))), (a 17, ar cI 3 (fun z : Int => x 3 (3 * 2 + z)))] (fun r_ => ((0 ≤ (0 : Int) ∧ (0 : Int) < 3)) ∧ r_ = some (iv (x 6 0))) (fun E_ => (E_ = xIA ∧ ¬ (0 ≤ (0 : Int) ∧ (0 : Int) < 3))) 6 36 := by
  refine en_T (cc := cX3_sold) (maxL := 2) (ret := (some .int)) (by decide) rfl (Nat.le_of_ble_eq_true rfl) ?_
  intro p e s m args below meth c ls hX hE hP hK hZ hnt hl Q hQ
  obtain ⟨hx, hb, hr, hml, hts, hown, hlocks, hnm⟩ := hX
  have hown : s.vm.findClass RX3 = some m.cls := hown
  have hl : lv_has ls 2 [(0, .ref (a 0)), (1, iv 0)] := hl
  have inX2 : ∀ w ∈ u_ws RX2 TX2 5, w ∈ wsX3_sold := by decide +kernel
  obtain ⟨hx00, hx01, hx02, hx03, hx04, hx1, hx2, hx3, hx4, hx5⟩ := id hI
  obtain ⟨hs0n, hs0w⟩ := ix_sk hI (i := 0) (by decide)
  have hs0t := ix_st hI (i := 0) (by decide)
  have hs0l := ix_la hI (i := 0) (by decide)
  refine lv_aload_n hx hb dX3_sold_0 rfl (lv_at hl 0 rfl) ?_
  refine lv_iload_n hx hb dX3_sold_1 rfl (lv_at hl 1 rfl) ?_
  refine ms_T (vx_runV (As := [iv 0]) (rest := []) ⟨hx, hb, hml, hown, hts⟩ (mt_X3_storeOf_0 l hst D cI cS cJ a (a 0) (a 1) (a 3) (a 4)) (cwV 1 hts gX3_sold_X3_storeOf rfl rfl rfl (by decide +kernel) ⟨Nat.le_of_ble_eq_true rfl, Nat.le_of_ble_eq_true rfl⟩) (pc_V (ci := 3) (q0 := 0) hK (hP.sub (ws' := [(a 0, ob 3 [.ref (a 1), .ref (a 3), .ref (a 4)]), (a 3, .inl (cS, 3, .inr (.inr (.inr (.inr (fun j => some (a (9 + j))))))))]) [0, 3] rfl) rfl rfl (pcT_S hE hK (hP.sub (ws' := [(a 0, ob 3 [.ref (a 1), .ref (a 3), .ref (a 4)]), (a 3, .inl (cS, 3, .inr (.inr (.inr (.inr (fun j => some (a (9 + j))))))))]) [0, 3] rfl) hZ)) rfl rfl hl.1 rfl (lv_room (Nat.le_of_ble_eq_true rfl)) dX3_sold_2 ⟨Nat.le_of_ble_eq_true rfl, Nat.le_of_ble_eq_true rfl⟩) (fun E9 ce9 q9 H1 hTX hz9 hk9 hce hcv hcl => ?_) (fun r_ hq_ => ?_)
  · skip
    subst hQ
    exact r_out hnt hlocks (by first | exact hTX | exact ⟨hTX, by omega⟩ | exact Or.inl ⟨hTX, by omega⟩ | (obtain ⟨e9, h9⟩ := hTX; exact ⟨e9, by omega⟩) | (rcases hTX with ⟨e9, h9⟩ | ⟨e9, h9⟩ <;> first | exact Or.inl ⟨e9, by omega⟩ | exact Or.inr ⟨e9, by omega⟩) | (obtain ⟨e9, h9⟩ := hTX; first | exact Or.inl ⟨e9, by omega⟩ | exact Or.inr ⟨e9, by omega⟩)) hz9 hk9 hce hcv hcl (fun _ h => by cases h) (Nat.le_of_ble_eq_true rfl) (Nat.le_of_ble_eq_true rfl)
  subst hq_
  refine va_getN (D := D) (ci := 2) (v := iv (x 6 0)) (C := RX2) (T := TX2) (N := 5) hx hb hts inX2 hown hK hP 9 rfl rfl 4 (by decide) (hE.at 18 rfl) (fun _ h9 => h9) rfl dX3_sold_5 ?_
  subst hQ
  exact r_Ti hx hb hr hlocks (by first | rfl | decide) dX3_sold_8 (⟨(by first | assumption | omega), rfl⟩) (Nat.le_of_ble_eq_true rfl) (Nat.le_of_ble_eq_true rfl)

abbrev rm_X3_sold_1 : Room := { frames := 9, cells := 6, slots := 36, locals := 330 }
set_option maxHeartbeats 4000000 in
set_option maxRecDepth 100000 in
theorem mt_X3_sold_1 (l : Launch) (hst : l.stackTraces = false) (D : va_G) (cI cS cJ : ClassId) (a : Nat → Nat) (x : Nat → Int → Int) (y : Nat → Int → Int) (hI : IX x) : cT l yX3_sold wsX3_sold rm_X3_sold_1 [.ref (a 0), iv 1] D (tyL cI cS cJ) [(a 0, ob 3 [.ref (a 1), .ref (a 3), .ref (a 4)]), (a 1, ob 1 [.ref (a 2), iv (x 0 0), iv (x 0 1), iv (x 0 2), iv (x 0 3), iv (x 0 4), iv (x 0 5)]), (a 2, ar cI 5 (x 1)), (a 3, .inl (cS, 3, .inr (.inr (.inr (.inr (fun j => some (a (9 + j)))))))), (a 4, ob 0 [.ref (a 5), .ref (a 6), .ref (a 7), .ref (a 8), iv (y 0 0), iv (y 0 1), iv (y 0 2), iv (y 0 3), iv (y 0 4), iv (y 0 5), iv (y 0 6), iv (y 0 7)]), (a 5, ar cI 5 (y 1)), (a 6, ar cI 5 (y 2)), (a 7, ar cI 3050 (y 3)), (a 8, ar cI 6 (y 4)), (a 9, ob 2 [.ref (a 12), .ref (a 15), iv (x 4 0), iv (x 5 0), iv (x 6 0)]), (a 12, ar cI 5 (fun z : Int => x 2 (5 * 0 + z))), (a 15, ar cI 3 (fun z : Int => x 3 (3 * 0 + z))), (a 10, ob 2 [.ref (a 13), .ref (a 16), iv (x 4 1), iv (x 5 1), iv (x 6 1)]), (a 13, ar cI 5 (fun z : Int => x 2 (5 * 1 + z))), (a 16, ar cI 3 (fun z : Int => x 3 (3 * 1 + z))), (a 11, ob 2 [.ref (a 14), .ref (a 17), iv (x 4 2), iv (x 5 2), iv (x 6 2)]), (a 14, ar cI 5 (fun z : Int => x 2 (5 * 2 + z))), (a 17, ar cI 3 (fun z : Int => x 3 (3 * 2 + z)))] (fun r_ => ((0 ≤ (1 : Int) ∧ (1 : Int) < 3)) ∧ r_ = some (iv (x 6 1))) (fun E_ => (E_ = xIA ∧ ¬ (0 ≤ (1 : Int) ∧ (1 : Int) < 3))) 6 36 := by
  refine en_T (cc := cX3_sold) (maxL := 2) (ret := (some .int)) (by decide) rfl (Nat.le_of_ble_eq_true rfl) ?_
  intro p e s m args below meth c ls hX hE hP hK hZ hnt hl Q hQ
  obtain ⟨hx, hb, hr, hml, hts, hown, hlocks, hnm⟩ := hX
  have hown : s.vm.findClass RX3 = some m.cls := hown
  have hl : lv_has ls 2 [(0, .ref (a 0)), (1, iv 1)] := hl
  have inX2 : ∀ w ∈ u_ws RX2 TX2 5, w ∈ wsX3_sold := by decide +kernel
  obtain ⟨hx00, hx01, hx02, hx03, hx04, hx1, hx2, hx3, hx4, hx5⟩ := id hI
  obtain ⟨hs1n, hs1w⟩ := ix_sk hI (i := 1) (by decide)
  have hs1t := ix_st hI (i := 1) (by decide)
  have hs1l := ix_la hI (i := 1) (by decide)
  refine lv_aload_n hx hb dX3_sold_0 rfl (lv_at hl 0 rfl) ?_
  refine lv_iload_n hx hb dX3_sold_1 rfl (lv_at hl 1 rfl) ?_
  refine ms_T (vx_runV (As := [iv 1]) (rest := []) ⟨hx, hb, hml, hown, hts⟩ (mt_X3_storeOf_1 l hst D cI cS cJ a (a 0) (a 1) (a 3) (a 4)) (cwV 1 hts gX3_sold_X3_storeOf rfl rfl rfl (by decide +kernel) ⟨Nat.le_of_ble_eq_true rfl, Nat.le_of_ble_eq_true rfl⟩) (pc_V (ci := 3) (q0 := 0) hK (hP.sub (ws' := [(a 0, ob 3 [.ref (a 1), .ref (a 3), .ref (a 4)]), (a 3, .inl (cS, 3, .inr (.inr (.inr (.inr (fun j => some (a (9 + j))))))))]) [0, 3] rfl) rfl rfl (pcT_S hE hK (hP.sub (ws' := [(a 0, ob 3 [.ref (a 1), .ref (a 3), .ref (a 4)]), (a 3, .inl (cS, 3, .inr (.inr (.inr (.inr (fun j => some (a (9 + j))))))))]) [0, 3] rfl) hZ)) rfl rfl hl.1 rfl (lv_room (Nat.le_of_ble_eq_true rfl)) dX3_sold_2 ⟨Nat.le_of_ble_eq_true rfl, Nat.le_of_ble_eq_true rfl⟩) (fun E9 ce9 q9 H1 hTX hz9 hk9 hce hcv hcl => ?_) (fun r_ hq_ => ?_)
  · skip
    subst hQ
    exact r_out hnt hlocks (by first | exact hTX | exact ⟨hTX, by omega⟩ | exact Or.inl ⟨hTX, by omega⟩ | (obtain ⟨e9, h9⟩ := hTX; exact ⟨e9, by omega⟩) | (rcases hTX with ⟨e9, h9⟩ | ⟨e9, h9⟩ <;> first | exact Or.inl ⟨e9, by omega⟩ | exact Or.inr ⟨e9, by omega⟩) | (obtain ⟨e9, h9⟩ := hTX; first | exact Or.inl ⟨e9, by omega⟩ | exact Or.inr ⟨e9, by omega⟩)) hz9 hk9 hce hcv hcl (fun _ h => by cases h) (Nat.le_of_ble_eq_true rfl) (Nat.le_of_ble_eq_true rfl)
  subst hq_
  refine va_getN (D := D) (ci := 2) (v := iv (x 6 1)) (C := RX2) (T := TX2) (N := 5) hx hb hts inX2 hown hK hP 12 rfl rfl 4 (by decide) (hE.at 18 rfl) (fun _ h9 => h9) rfl dX3_sold_5 ?_
  subst hQ
  exact r_Ti hx hb hr hlocks (by first | rfl | decide) dX3_sold_8 (⟨(by first | assumption | omega), rfl⟩) (Nat.le_of_ble_eq_true rfl) (Nat.le_of_ble_eq_true rfl)

abbrev rm_X3_sold_2 : Room := { frames := 9, cells := 6, slots := 36, locals := 330 }
set_option maxHeartbeats 4000000 in
set_option maxRecDepth 100000 in
theorem mt_X3_sold_2 (l : Launch) (hst : l.stackTraces = false) (D : va_G) (cI cS cJ : ClassId) (a : Nat → Nat) (x : Nat → Int → Int) (y : Nat → Int → Int) (hI : IX x) : cT l yX3_sold wsX3_sold rm_X3_sold_2 [.ref (a 0), iv 2] D (tyL cI cS cJ) [(a 0, ob 3 [.ref (a 1), .ref (a 3), .ref (a 4)]), (a 1, ob 1 [.ref (a 2), iv (x 0 0), iv (x 0 1), iv (x 0 2), iv (x 0 3), iv (x 0 4), iv (x 0 5)]), (a 2, ar cI 5 (x 1)), (a 3, .inl (cS, 3, .inr (.inr (.inr (.inr (fun j => some (a (9 + j)))))))), (a 4, ob 0 [.ref (a 5), .ref (a 6), .ref (a 7), .ref (a 8), iv (y 0 0), iv (y 0 1), iv (y 0 2), iv (y 0 3), iv (y 0 4), iv (y 0 5), iv (y 0 6), iv (y 0 7)]), (a 5, ar cI 5 (y 1)), (a 6, ar cI 5 (y 2)), (a 7, ar cI 3050 (y 3)), (a 8, ar cI 6 (y 4)), (a 9, ob 2 [.ref (a 12), .ref (a 15), iv (x 4 0), iv (x 5 0), iv (x 6 0)]), (a 12, ar cI 5 (fun z : Int => x 2 (5 * 0 + z))), (a 15, ar cI 3 (fun z : Int => x 3 (3 * 0 + z))), (a 10, ob 2 [.ref (a 13), .ref (a 16), iv (x 4 1), iv (x 5 1), iv (x 6 1)]), (a 13, ar cI 5 (fun z : Int => x 2 (5 * 1 + z))), (a 16, ar cI 3 (fun z : Int => x 3 (3 * 1 + z))), (a 11, ob 2 [.ref (a 14), .ref (a 17), iv (x 4 2), iv (x 5 2), iv (x 6 2)]), (a 14, ar cI 5 (fun z : Int => x 2 (5 * 2 + z))), (a 17, ar cI 3 (fun z : Int => x 3 (3 * 2 + z)))] (fun r_ => ((0 ≤ (2 : Int) ∧ (2 : Int) < 3)) ∧ r_ = some (iv (x 6 2))) (fun E_ => (E_ = xIA ∧ ¬ (0 ≤ (2 : Int) ∧ (2 : Int) < 3))) 6 36 := by
  refine en_T (cc := cX3_sold) (maxL := 2) (ret := (some .int)) (by decide) rfl (Nat.le_of_ble_eq_true rfl) ?_
  intro p e s m args below meth c ls hX hE hP hK hZ hnt hl Q hQ
  obtain ⟨hx, hb, hr, hml, hts, hown, hlocks, hnm⟩ := hX
  have hown : s.vm.findClass RX3 = some m.cls := hown
  have hl : lv_has ls 2 [(0, .ref (a 0)), (1, iv 2)] := hl
  have inX2 : ∀ w ∈ u_ws RX2 TX2 5, w ∈ wsX3_sold := by decide +kernel
  obtain ⟨hx00, hx01, hx02, hx03, hx04, hx1, hx2, hx3, hx4, hx5⟩ := id hI
  obtain ⟨hs2n, hs2w⟩ := ix_sk hI (i := 2) (by decide)
  have hs2t := ix_st hI (i := 2) (by decide)
  have hs2l := ix_la hI (i := 2) (by decide)
  refine lv_aload_n hx hb dX3_sold_0 rfl (lv_at hl 0 rfl) ?_
  refine lv_iload_n hx hb dX3_sold_1 rfl (lv_at hl 1 rfl) ?_
  refine ms_T (vx_runV (As := [iv 2]) (rest := []) ⟨hx, hb, hml, hown, hts⟩ (mt_X3_storeOf_2 l hst D cI cS cJ a (a 0) (a 1) (a 3) (a 4)) (cwV 1 hts gX3_sold_X3_storeOf rfl rfl rfl (by decide +kernel) ⟨Nat.le_of_ble_eq_true rfl, Nat.le_of_ble_eq_true rfl⟩) (pc_V (ci := 3) (q0 := 0) hK (hP.sub (ws' := [(a 0, ob 3 [.ref (a 1), .ref (a 3), .ref (a 4)]), (a 3, .inl (cS, 3, .inr (.inr (.inr (.inr (fun j => some (a (9 + j))))))))]) [0, 3] rfl) rfl rfl (pcT_S hE hK (hP.sub (ws' := [(a 0, ob 3 [.ref (a 1), .ref (a 3), .ref (a 4)]), (a 3, .inl (cS, 3, .inr (.inr (.inr (.inr (fun j => some (a (9 + j))))))))]) [0, 3] rfl) hZ)) rfl rfl hl.1 rfl (lv_room (Nat.le_of_ble_eq_true rfl)) dX3_sold_2 ⟨Nat.le_of_ble_eq_true rfl, Nat.le_of_ble_eq_true rfl⟩) (fun E9 ce9 q9 H1 hTX hz9 hk9 hce hcv hcl => ?_) (fun r_ hq_ => ?_)
  · skip
    subst hQ
    exact r_out hnt hlocks (by first | exact hTX | exact ⟨hTX, by omega⟩ | exact Or.inl ⟨hTX, by omega⟩ | (obtain ⟨e9, h9⟩ := hTX; exact ⟨e9, by omega⟩) | (rcases hTX with ⟨e9, h9⟩ | ⟨e9, h9⟩ <;> first | exact Or.inl ⟨e9, by omega⟩ | exact Or.inr ⟨e9, by omega⟩) | (obtain ⟨e9, h9⟩ := hTX; first | exact Or.inl ⟨e9, by omega⟩ | exact Or.inr ⟨e9, by omega⟩)) hz9 hk9 hce hcv hcl (fun _ h => by cases h) (Nat.le_of_ble_eq_true rfl) (Nat.le_of_ble_eq_true rfl)
  subst hq_
  refine va_getN (D := D) (ci := 2) (v := iv (x 6 2)) (C := RX2) (T := TX2) (N := 5) hx hb hts inX2 hown hK hP 15 rfl rfl 4 (by decide) (hE.at 18 rfl) (fun _ h9 => h9) rfl dX3_sold_5 ?_
  subst hQ
  exact r_Ti hx hb hr hlocks (by first | rfl | decide) dX3_sold_8 (⟨(by first | assumption | omega), rfl⟩) (Nat.le_of_ble_eq_true rfl) (Nat.le_of_ble_eq_true rfl)

abbrev rm_X3_sold_out : Room := { frames := 9, cells := 6, slots := 36, locals := 330 }
set_option maxHeartbeats 4000000 in
set_option maxRecDepth 100000 in
theorem mt_X3_sold_out (l : Launch) (hst : l.stackTraces = false) (D : va_G) (cI cS cJ : ClassId) (a : Nat → Nat) (x : Nat → Int → Int) (y : Nat → Int → Int) (i : Int) (hI : IX x) (bi : -2147483648 ≤ i ∧ i < 2147483648) (hno : ¬ (0 ≤ i ∧ i < 3)) : cT l yX3_sold wsX3_sold rm_X3_sold_out [.ref (a 0), iv i] D (tyL cI cS cJ) [(a 0, ob 3 [.ref (a 1), .ref (a 3), .ref (a 4)]), (a 1, ob 1 [.ref (a 2), iv (x 0 0), iv (x 0 1), iv (x 0 2), iv (x 0 3), iv (x 0 4), iv (x 0 5)]), (a 2, ar cI 5 (x 1)), (a 3, .inl (cS, 3, .inr (.inr (.inr (.inr (fun j => some (a (9 + j)))))))), (a 4, ob 0 [.ref (a 5), .ref (a 6), .ref (a 7), .ref (a 8), iv (y 0 0), iv (y 0 1), iv (y 0 2), iv (y 0 3), iv (y 0 4), iv (y 0 5), iv (y 0 6), iv (y 0 7)]), (a 5, ar cI 5 (y 1)), (a 6, ar cI 5 (y 2)), (a 7, ar cI 3050 (y 3)), (a 8, ar cI 6 (y 4)), (a 9, ob 2 [.ref (a 12), .ref (a 15), iv (x 4 0), iv (x 5 0), iv (x 6 0)]), (a 12, ar cI 5 (fun z : Int => x 2 (5 * 0 + z))), (a 15, ar cI 3 (fun z : Int => x 3 (3 * 0 + z))), (a 10, ob 2 [.ref (a 13), .ref (a 16), iv (x 4 1), iv (x 5 1), iv (x 6 1)]), (a 13, ar cI 5 (fun z : Int => x 2 (5 * 1 + z))), (a 16, ar cI 3 (fun z : Int => x 3 (3 * 1 + z))), (a 11, ob 2 [.ref (a 14), .ref (a 17), iv (x 4 2), iv (x 5 2), iv (x 6 2)]), (a 14, ar cI 5 (fun z : Int => x 2 (5 * 2 + z))), (a 17, ar cI 3 (fun z : Int => x 3 (3 * 2 + z)))] (fun r_ => ((0 ≤ i ∧ i < 3)) ∧ r_ = some (iv (x 6 i))) (fun E_ => (E_ = xIA ∧ ¬ (0 ≤ i ∧ i < 3))) 6 36 := by
  refine en_T (cc := cX3_sold) (maxL := 2) (ret := (some .int)) (by decide) rfl (Nat.le_of_ble_eq_true rfl) ?_
  intro p e s m args below meth c ls hX hE hP hK hZ hnt hl Q hQ
  obtain ⟨hx, hb, hr, hml, hts, hown, hlocks, hnm⟩ := hX
  have hown : s.vm.findClass RX3 = some m.cls := hown
  have hl : lv_has ls 2 [(0, .ref (a 0)), (1, iv i)] := hl
  obtain ⟨hx00, hx01, hx02, hx03, hx04, hx1, hx2, hx3, hx4, hx5⟩ := id hI
  refine lv_aload_n hx hb dX3_sold_0 rfl (lv_at hl 0 rfl) ?_
  refine lv_iload_n hx hb dX3_sold_1 rfl (lv_at hl 1 rfl) ?_
  refine ms_T (vx_runV (As := [iv i]) (rest := []) ⟨hx, hb, hml, hown, hts⟩ (mt_X3_storeOf_out l hst D cI cS cJ a (a 0) (a 1) (a 3) (a 4) i (by omega) (by omega)) (cwV 1 hts gX3_sold_X3_storeOf rfl rfl rfl (by decide +kernel) ⟨Nat.le_of_ble_eq_true rfl, Nat.le_of_ble_eq_true rfl⟩) (pc_V (ci := 3) (q0 := 0) hK (hP.sub (ws' := [(a 0, ob 3 [.ref (a 1), .ref (a 3), .ref (a 4)]), (a 3, .inl (cS, 3, .inr (.inr (.inr (.inr (fun j => some (a (9 + j))))))))]) [0, 3] rfl) rfl rfl (pcT_S hE hK (hP.sub (ws' := [(a 0, ob 3 [.ref (a 1), .ref (a 3), .ref (a 4)]), (a 3, .inl (cS, 3, .inr (.inr (.inr (.inr (fun j => some (a (9 + j))))))))]) [0, 3] rfl) hZ)) rfl rfl hl.1 rfl (lv_room (Nat.le_of_ble_eq_true rfl)) dX3_sold_2 ⟨Nat.le_of_ble_eq_true rfl, Nat.le_of_ble_eq_true rfl⟩) (fun E9 ce9 q9 H1 hTX hz9 hk9 hce hcv hcl => ?_) (fun r_ hq_ => ?_)
  · skip
    subst hQ
    exact r_out hnt hlocks (by first | exact hTX | exact ⟨hTX, by omega⟩ | exact Or.inl ⟨hTX, by omega⟩ | (obtain ⟨e9, h9⟩ := hTX; exact ⟨e9, by omega⟩) | (rcases hTX with ⟨e9, h9⟩ | ⟨e9, h9⟩ <;> first | exact Or.inl ⟨e9, by omega⟩ | exact Or.inr ⟨e9, by omega⟩) | (obtain ⟨e9, h9⟩ := hTX; first | exact Or.inl ⟨e9, by omega⟩ | exact Or.inr ⟨e9, by omega⟩)) hz9 hk9 hce hcv hcl (fun _ h => by cases h) (Nat.le_of_ble_eq_true rfl) (Nat.le_of_ble_eq_true rfl)
  obtain ⟨hf_1, rfl⟩ := hq_
  exact hf_1.elim

abbrev rm_X3_sold : Room := { frames := 9, cells := 6, slots := 36, locals := 330 }
set_option maxHeartbeats 4000000 in
set_option maxRecDepth 100000 in
theorem mt_X3_sold (l : Launch) (hst : l.stackTraces = false) (D : va_G) (cI cS cJ : ClassId) (a : Nat → Nat) (x : Nat → Int → Int) (y : Nat → Int → Int) (i : Int) (hI : IX x) (bi : -2147483648 ≤ i ∧ i < 2147483648) : cT l yX3_sold wsX3_sold rm_X3_sold [.ref (a 0), iv i] D (tyL cI cS cJ) [(a 0, ob 3 [.ref (a 1), .ref (a 3), .ref (a 4)]), (a 1, ob 1 [.ref (a 2), iv (x 0 0), iv (x 0 1), iv (x 0 2), iv (x 0 3), iv (x 0 4), iv (x 0 5)]), (a 2, ar cI 5 (x 1)), (a 3, .inl (cS, 3, .inr (.inr (.inr (.inr (fun j => some (a (9 + j)))))))), (a 4, ob 0 [.ref (a 5), .ref (a 6), .ref (a 7), .ref (a 8), iv (y 0 0), iv (y 0 1), iv (y 0 2), iv (y 0 3), iv (y 0 4), iv (y 0 5), iv (y 0 6), iv (y 0 7)]), (a 5, ar cI 5 (y 1)), (a 6, ar cI 5 (y 2)), (a 7, ar cI 3050 (y 3)), (a 8, ar cI 6 (y 4)), (a 9, ob 2 [.ref (a 12), .ref (a 15), iv (x 4 0), iv (x 5 0), iv (x 6 0)]), (a 12, ar cI 5 (fun z : Int => x 2 (5 * 0 + z))), (a 15, ar cI 3 (fun z : Int => x 3 (3 * 0 + z))), (a 10, ob 2 [.ref (a 13), .ref (a 16), iv (x 4 1), iv (x 5 1), iv (x 6 1)]), (a 13, ar cI 5 (fun z : Int => x 2 (5 * 1 + z))), (a 16, ar cI 3 (fun z : Int => x 3 (3 * 1 + z))), (a 11, ob 2 [.ref (a 14), .ref (a 17), iv (x 4 2), iv (x 5 2), iv (x 6 2)]), (a 14, ar cI 5 (fun z : Int => x 2 (5 * 2 + z))), (a 17, ar cI 3 (fun z : Int => x 3 (3 * 2 + z)))] (fun r_ => ((0 ≤ i ∧ i < 3)) ∧ r_ = some (iv (x 6 i))) (fun E_ => (E_ = xIA ∧ ¬ (0 ≤ i ∧ i < 3))) 6 36 := by
  rcases (show i = 0 ∨ i = 1 ∨ i = 2 ∨ ¬ (0 ≤ i ∧ i < 3) by omega) with rfl | rfl | rfl | hno_i
  · skip
    exact mt_X3_sold_0 l hst D cI cS cJ a x y  hI
  · skip
    exact mt_X3_sold_1 l hst D cI cS cJ a x y  hI
  · skip
    exact mt_X3_sold_2 l hst D cI cS cJ a x y  hI
  · skip
    exact mt_X3_sold_out l hst D cI cS cJ a x y i hI bi hno_i

abbrev rm_X3_weeksToWait_0 : Room := { frames := 9, cells := 6, slots := 36, locals := 330 }
set_option maxHeartbeats 4000000 in
set_option maxRecDepth 100000 in
theorem mt_X3_weeksToWait_0 (l : Launch) (hst : l.stackTraces = false) (D : va_G) (cI cS cJ : ClassId) (a : Nat → Nat) (x : Nat → Int → Int) (y : Nat → Int → Int) (hI : IX x) : cT l yX3_weeksToWait wsX3_weeksToWait rm_X3_weeksToWait_0 [.ref (a 0), iv 0] D (tyL cI cS cJ) [(a 0, ob 3 [.ref (a 1), .ref (a 3), .ref (a 4)]), (a 1, ob 1 [.ref (a 2), iv (x 0 0), iv (x 0 1), iv (x 0 2), iv (x 0 3), iv (x 0 4), iv (x 0 5)]), (a 2, ar cI 5 (x 1)), (a 3, .inl (cS, 3, .inr (.inr (.inr (.inr (fun j => some (a (9 + j)))))))), (a 4, ob 0 [.ref (a 5), .ref (a 6), .ref (a 7), .ref (a 8), iv (y 0 0), iv (y 0 1), iv (y 0 2), iv (y 0 3), iv (y 0 4), iv (y 0 5), iv (y 0 6), iv (y 0 7)]), (a 5, ar cI 5 (y 1)), (a 6, ar cI 5 (y 2)), (a 7, ar cI 3050 (y 3)), (a 8, ar cI 6 (y 4)), (a 9, ob 2 [.ref (a 12), .ref (a 15), iv (x 4 0), iv (x 5 0), iv (x 6 0)]), (a 12, ar cI 5 (fun z : Int => x 2 (5 * 0 + z))), (a 15, ar cI 3 (fun z : Int => x 3 (3 * 0 + z))), (a 10, ob 2 [.ref (a 13), .ref (a 16), iv (x 4 1), iv (x 5 1), iv (x 6 1)]), (a 13, ar cI 5 (fun z : Int => x 2 (5 * 1 + z))), (a 16, ar cI 3 (fun z : Int => x 3 (3 * 1 + z))), (a 11, ob 2 [.ref (a 14), .ref (a 17), iv (x 4 2), iv (x 5 2), iv (x 6 2)]), (a 14, ar cI 5 (fun z : Int => x 2 (5 * 2 + z))), (a 17, ar cI 3 (fun z : Int => x 3 (3 * 2 + z)))] (fun r_ => ((0 ≤ (0 : Int) ∧ (0 : Int) < 3)) ∧ r_ = some (iv (wtv (x 5 0) (x 0 2) (x 0 1)))) (fun E_ => (E_ = xIA ∧ ¬ (0 ≤ (0 : Int) ∧ (0 : Int) < 3))) 6 36 := by
  refine en_T (cc := cX3_weeksToWait) (maxL := 2) (ret := (some .int)) (by decide) rfl (Nat.le_of_ble_eq_true rfl) ?_
  intro p e s m args below meth c ls hX hE hP hK hZ hnt hl Q hQ
  obtain ⟨hx, hb, hr, hml, hts, hown, hlocks, hnm⟩ := hX
  have hown : s.vm.findClass RX3 = some m.cls := hown
  have hl : lv_has ls 2 [(0, .ref (a 0)), (1, iv 0)] := hl
  have inX1 : ∀ w ∈ u_ws RX1 TX1 7, w ∈ wsX3_weeksToWait := by decide +kernel
  have inX3 : ∀ w ∈ u_ws RX3 TX3 3, w ∈ wsX3_weeksToWait := by decide +kernel
  have w0 : (Cond.fieldLink RX3 12 RX3 "season" "LMarkdownPlanner$Season;").before args s = true := hts _ (by decide +kernel)
  have w1 : (Cond.initialized RX2).before args s = true := hts _ (by decide +kernel)
  have w2 : (Cond.instanceMethod yX2_waitFrom).before args s = true := hts _ (by decide +kernel)
  have w3 : (Cond.selects RX2 yX2_waitFrom yX2_waitFrom).before args s = true := hts _ (by decide +kernel)
  obtain ⟨hx00, hx01, hx02, hx03, hx04, hx1, hx2, hx3, hx4, hx5⟩ := id hI
  obtain ⟨hs0n, hs0w⟩ := ix_sk hI (i := 0) (by decide)
  have hs0t := ix_st hI (i := 0) (by decide)
  have hs0l := ix_la hI (i := 0) (by decide)
  refine lv_aload_n hx hb dX3_weeksToWait_0 rfl (lv_at hl 0 rfl) ?_
  refine lv_iload_n hx hb dX3_weeksToWait_1 rfl (lv_at hl 1 rfl) ?_
  refine ms_T (vx_runV (As := [iv 0]) (rest := []) ⟨hx, hb, hml, hown, hts⟩ (mt_X3_storeOf_0 l hst D cI cS cJ a (a 0) (a 1) (a 3) (a 4)) (cwV 1 hts gX3_weeksToWait_X3_storeOf rfl rfl rfl (by decide +kernel) ⟨Nat.le_of_ble_eq_true rfl, Nat.le_of_ble_eq_true rfl⟩) (pc_V (ci := 3) (q0 := 0) hK (hP.sub (ws' := [(a 0, ob 3 [.ref (a 1), .ref (a 3), .ref (a 4)]), (a 3, .inl (cS, 3, .inr (.inr (.inr (.inr (fun j => some (a (9 + j))))))))]) [0, 3] rfl) rfl rfl (pcT_S hE hK (hP.sub (ws' := [(a 0, ob 3 [.ref (a 1), .ref (a 3), .ref (a 4)]), (a 3, .inl (cS, 3, .inr (.inr (.inr (.inr (fun j => some (a (9 + j))))))))]) [0, 3] rfl) hZ)) rfl rfl hl.1 rfl (lv_room (Nat.le_of_ble_eq_true rfl)) dX3_weeksToWait_2 ⟨Nat.le_of_ble_eq_true rfl, Nat.le_of_ble_eq_true rfl⟩) (fun E9 ce9 q9 H1 hTX hz9 hk9 hce hcv hcl => ?_) (fun r_ hq_ => ?_)
  · skip
    subst hQ
    exact r_out hnt hlocks (by first | exact hTX | exact ⟨hTX, by omega⟩ | exact Or.inl ⟨hTX, by omega⟩ | (obtain ⟨e9, h9⟩ := hTX; exact ⟨e9, by omega⟩) | (rcases hTX with ⟨e9, h9⟩ | ⟨e9, h9⟩ <;> first | exact Or.inl ⟨e9, by omega⟩ | exact Or.inr ⟨e9, by omega⟩) | (obtain ⟨e9, h9⟩ := hTX; first | exact Or.inl ⟨e9, by omega⟩ | exact Or.inr ⟨e9, by omega⟩)) hz9 hk9 hce hcv hcl (fun _ h => by cases h) (Nat.le_of_ble_eq_true rfl) (Nat.le_of_ble_eq_true rfl)
  subst hq_
  refine lv_aload_n hx hb dX3_weeksToWait_5 rfl (lv_at hl 0 rfl) ?_
  refine va_get (D := D) (ci := 3) (v := .ref (a 1)) (C := RX3) (T := TX3) (N := 3) hx hb hts inX3 hown hK hP 0 rfl rfl 0 (by decide) w0 (fun _ h9 => h9) rfl dX3_weeksToWait_6 ?_
  refine va_getN (D := D) (ci := 1) (v := iv (x 0 1)) (C := RX1) (T := TX1) (N := 7) hx hb hts inX1 hown hK hP 1 rfl rfl 2 (by decide) (hE.at 4 rfl) (fun _ h9 => h9) rfl dX3_weeksToWait_9 ?_
  refine lv_aload_n hx hb dX3_weeksToWait_12 rfl (lv_at hl 0 rfl) ?_
  refine va_get (D := D) (ci := 3) (v := .ref (a 1)) (C := RX3) (T := TX3) (N := 3) hx hb hts inX3 hown hK hP 0 rfl rfl 0 (by decide) w0 (fun _ h9 => h9) rfl dX3_weeksToWait_13 ?_
  refine va_getN (D := D) (ci := 1) (v := iv (x 0 2)) (C := RX1) (T := TX1) (N := 7) hx hb hts inX1 hown hK hP 1 rfl rfl 3 (by decide) (hE.at 7 rfl) (fun _ h9 => h9) rfl dX3_weeksToWait_16 ?_
  refine ms_P (va_runVN (As := [iv (x 0 1), iv (x 0 2)]) (rest := []) ⟨hx, hb, hml, hown, hts⟩ (mt_X2_waitFrom l D cI cS cJ (a 9) (a 12) (a 15) (fun z : Int => x 2 (5 * 0 + z)) (fun z : Int => x 3 (3 * 0 + z)) (x 4 0) (x 5 0) (x 6 0) (x 0 1) (x 0 2) (by omega) (by omega) (by omega)) ⟨va_cnB 2 hts gX3_weeksToWait_X2_waitFrom_n96 rfl rfl rfl (hE.nw 26 rfl) w1 (by decide +kernel) ⟨Nat.le_of_ble_eq_true rfl, Nat.le_of_ble_eq_true rfl⟩, w2, w3⟩ (pc_V (ci := 2) (q0 := 0) hK (hP.sub (ws' := [(a 9, ob 2 [.ref (a 12), .ref (a 15), iv (x 4 0), iv (x 5 0), iv (x 6 0)]), (a 12, ar cI 5 (fun z : Int => x 2 (5 * 0 + z))), (a 15, ar cI 3 (fun z : Int => x 3 (3 * 0 + z)))]) [9, 10, 11] rfl) rfl rfl (pcP_S hE hK (hP.sub (ws' := [(a 9, ob 2 [.ref (a 12), .ref (a 15), iv (x 4 0), iv (x 5 0), iv (x 6 0)]), (a 12, ar cI 5 (fun z : Int => x 2 (5 * 0 + z))), (a 15, ar cI 3 (fun z : Int => x 3 (3 * 0 + z)))]) [9, 10, 11] rfl))) rfl rfl hl.1 rfl (lv_room (Nat.le_of_ble_eq_true rfl)) dX3_weeksToWait_19 ⟨Nat.le_of_ble_eq_true rfl, Nat.le_of_ble_eq_true rfl⟩) ?_
  subst hQ
  exact r_Ti hx hb hr hlocks (by first | rfl | decide) dX3_weeksToWait_22 (⟨(by first | assumption | omega), rfl⟩) (Nat.le_of_ble_eq_true rfl) (Nat.le_of_ble_eq_true rfl)

abbrev rm_X3_weeksToWait_1 : Room := { frames := 9, cells := 6, slots := 36, locals := 330 }
set_option maxHeartbeats 4000000 in
set_option maxRecDepth 100000 in
theorem mt_X3_weeksToWait_1 (l : Launch) (hst : l.stackTraces = false) (D : va_G) (cI cS cJ : ClassId) (a : Nat → Nat) (x : Nat → Int → Int) (y : Nat → Int → Int) (hI : IX x) : cT l yX3_weeksToWait wsX3_weeksToWait rm_X3_weeksToWait_1 [.ref (a 0), iv 1] D (tyL cI cS cJ) [(a 0, ob 3 [.ref (a 1), .ref (a 3), .ref (a 4)]), (a 1, ob 1 [.ref (a 2), iv (x 0 0), iv (x 0 1), iv (x 0 2), iv (x 0 3), iv (x 0 4), iv (x 0 5)]), (a 2, ar cI 5 (x 1)), (a 3, .inl (cS, 3, .inr (.inr (.inr (.inr (fun j => some (a (9 + j)))))))), (a 4, ob 0 [.ref (a 5), .ref (a 6), .ref (a 7), .ref (a 8), iv (y 0 0), iv (y 0 1), iv (y 0 2), iv (y 0 3), iv (y 0 4), iv (y 0 5), iv (y 0 6), iv (y 0 7)]), (a 5, ar cI 5 (y 1)), (a 6, ar cI 5 (y 2)), (a 7, ar cI 3050 (y 3)), (a 8, ar cI 6 (y 4)), (a 9, ob 2 [.ref (a 12), .ref (a 15), iv (x 4 0), iv (x 5 0), iv (x 6 0)]), (a 12, ar cI 5 (fun z : Int => x 2 (5 * 0 + z))), (a 15, ar cI 3 (fun z : Int => x 3 (3 * 0 + z))), (a 10, ob 2 [.ref (a 13), .ref (a 16), iv (x 4 1), iv (x 5 1), iv (x 6 1)]), (a 13, ar cI 5 (fun z : Int => x 2 (5 * 1 + z))), (a 16, ar cI 3 (fun z : Int => x 3 (3 * 1 + z))), (a 11, ob 2 [.ref (a 14), .ref (a 17), iv (x 4 2), iv (x 5 2), iv (x 6 2)]), (a 14, ar cI 5 (fun z : Int => x 2 (5 * 2 + z))), (a 17, ar cI 3 (fun z : Int => x 3 (3 * 2 + z)))] (fun r_ => ((0 ≤ (1 : Int) ∧ (1 : Int) < 3)) ∧ r_ = some (iv (wtv (x 5 1) (x 0 2) (x 0 1)))) (fun E_ => (E_ = xIA ∧ ¬ (0 ≤ (1 : Int) ∧ (1 : Int) < 3))) 6 36 := by
  refine en_T (cc := cX3_weeksToWait) (maxL := 2) (ret := (some .int)) (by decide) rfl (Nat.le_of_ble_eq_true rfl) ?_
  intro p e s m args below meth c ls hX hE hP hK hZ hnt hl Q hQ
  obtain ⟨hx, hb, hr, hml, hts, hown, hlocks, hnm⟩ := hX
  have hown : s.vm.findClass RX3 = some m.cls := hown
  have hl : lv_has ls 2 [(0, .ref (a 0)), (1, iv 1)] := hl
  have inX1 : ∀ w ∈ u_ws RX1 TX1 7, w ∈ wsX3_weeksToWait := by decide +kernel
  have inX3 : ∀ w ∈ u_ws RX3 TX3 3, w ∈ wsX3_weeksToWait := by decide +kernel
  have w0 : (Cond.fieldLink RX3 12 RX3 "season" "LMarkdownPlanner$Season;").before args s = true := hts _ (by decide +kernel)
  have w1 : (Cond.initialized RX2).before args s = true := hts _ (by decide +kernel)
  have w2 : (Cond.instanceMethod yX2_waitFrom).before args s = true := hts _ (by decide +kernel)
  have w3 : (Cond.selects RX2 yX2_waitFrom yX2_waitFrom).before args s = true := hts _ (by decide +kernel)
  obtain ⟨hx00, hx01, hx02, hx03, hx04, hx1, hx2, hx3, hx4, hx5⟩ := id hI
  obtain ⟨hs1n, hs1w⟩ := ix_sk hI (i := 1) (by decide)
  have hs1t := ix_st hI (i := 1) (by decide)
  have hs1l := ix_la hI (i := 1) (by decide)
  refine lv_aload_n hx hb dX3_weeksToWait_0 rfl (lv_at hl 0 rfl) ?_
  refine lv_iload_n hx hb dX3_weeksToWait_1 rfl (lv_at hl 1 rfl) ?_
  refine ms_T (vx_runV (As := [iv 1]) (rest := []) ⟨hx, hb, hml, hown, hts⟩ (mt_X3_storeOf_1 l hst D cI cS cJ a (a 0) (a 1) (a 3) (a 4)) (cwV 1 hts gX3_weeksToWait_X3_storeOf rfl rfl rfl (by decide +kernel) ⟨Nat.le_of_ble_eq_true rfl, Nat.le_of_ble_eq_true rfl⟩) (pc_V (ci := 3) (q0 := 0) hK (hP.sub (ws' := [(a 0, ob 3 [.ref (a 1), .ref (a 3), .ref (a 4)]), (a 3, .inl (cS, 3, .inr (.inr (.inr (.inr (fun j => some (a (9 + j))))))))]) [0, 3] rfl) rfl rfl (pcT_S hE hK (hP.sub (ws' := [(a 0, ob 3 [.ref (a 1), .ref (a 3), .ref (a 4)]), (a 3, .inl (cS, 3, .inr (.inr (.inr (.inr (fun j => some (a (9 + j))))))))]) [0, 3] rfl) hZ)) rfl rfl hl.1 rfl (lv_room (Nat.le_of_ble_eq_true rfl)) dX3_weeksToWait_2 ⟨Nat.le_of_ble_eq_true rfl, Nat.le_of_ble_eq_true rfl⟩) (fun E9 ce9 q9 H1 hTX hz9 hk9 hce hcv hcl => ?_) (fun r_ hq_ => ?_)
  · skip
    subst hQ
    exact r_out hnt hlocks (by first | exact hTX | exact ⟨hTX, by omega⟩ | exact Or.inl ⟨hTX, by omega⟩ | (obtain ⟨e9, h9⟩ := hTX; exact ⟨e9, by omega⟩) | (rcases hTX with ⟨e9, h9⟩ | ⟨e9, h9⟩ <;> first | exact Or.inl ⟨e9, by omega⟩ | exact Or.inr ⟨e9, by omega⟩) | (obtain ⟨e9, h9⟩ := hTX; first | exact Or.inl ⟨e9, by omega⟩ | exact Or.inr ⟨e9, by omega⟩)) hz9 hk9 hce hcv hcl (fun _ h => by cases h) (Nat.le_of_ble_eq_true rfl) (Nat.le_of_ble_eq_true rfl)
  subst hq_
  refine lv_aload_n hx hb dX3_weeksToWait_5 rfl (lv_at hl 0 rfl) ?_
  refine va_get (D := D) (ci := 3) (v := .ref (a 1)) (C := RX3) (T := TX3) (N := 3) hx hb hts inX3 hown hK hP 0 rfl rfl 0 (by decide) w0 (fun _ h9 => h9) rfl dX3_weeksToWait_6 ?_
  refine va_getN (D := D) (ci := 1) (v := iv (x 0 1)) (C := RX1) (T := TX1) (N := 7) hx hb hts inX1 hown hK hP 1 rfl rfl 2 (by decide) (hE.at 4 rfl) (fun _ h9 => h9) rfl dX3_weeksToWait_9 ?_
  refine lv_aload_n hx hb dX3_weeksToWait_12 rfl (lv_at hl 0 rfl) ?_
  refine va_get (D := D) (ci := 3) (v := .ref (a 1)) (C := RX3) (T := TX3) (N := 3) hx hb hts inX3 hown hK hP 0 rfl rfl 0 (by decide) w0 (fun _ h9 => h9) rfl dX3_weeksToWait_13 ?_
  refine va_getN (D := D) (ci := 1) (v := iv (x 0 2)) (C := RX1) (T := TX1) (N := 7) hx hb hts inX1 hown hK hP 1 rfl rfl 3 (by decide) (hE.at 7 rfl) (fun _ h9 => h9) rfl dX3_weeksToWait_16 ?_
  refine ms_P (va_runVN (As := [iv (x 0 1), iv (x 0 2)]) (rest := []) ⟨hx, hb, hml, hown, hts⟩ (mt_X2_waitFrom l D cI cS cJ (a 10) (a 13) (a 16) (fun z : Int => x 2 (5 * 1 + z)) (fun z : Int => x 3 (3 * 1 + z)) (x 4 1) (x 5 1) (x 6 1) (x 0 1) (x 0 2) (by omega) (by omega) (by omega)) ⟨va_cnB 2 hts gX3_weeksToWait_X2_waitFrom_n96 rfl rfl rfl (hE.nw 26 rfl) w1 (by decide +kernel) ⟨Nat.le_of_ble_eq_true rfl, Nat.le_of_ble_eq_true rfl⟩, w2, w3⟩ (pc_V (ci := 2) (q0 := 0) hK (hP.sub (ws' := [(a 10, ob 2 [.ref (a 13), .ref (a 16), iv (x 4 1), iv (x 5 1), iv (x 6 1)]), (a 13, ar cI 5 (fun z : Int => x 2 (5 * 1 + z))), (a 16, ar cI 3 (fun z : Int => x 3 (3 * 1 + z)))]) [12, 13, 14] rfl) rfl rfl (pcP_S hE hK (hP.sub (ws' := [(a 10, ob 2 [.ref (a 13), .ref (a 16), iv (x 4 1), iv (x 5 1), iv (x 6 1)]), (a 13, ar cI 5 (fun z : Int => x 2 (5 * 1 + z))), (a 16, ar cI 3 (fun z : Int => x 3 (3 * 1 + z)))]) [12, 13, 14] rfl))) rfl rfl hl.1 rfl (lv_room (Nat.le_of_ble_eq_true rfl)) dX3_weeksToWait_19 ⟨Nat.le_of_ble_eq_true rfl, Nat.le_of_ble_eq_true rfl⟩) ?_
  subst hQ
  exact r_Ti hx hb hr hlocks (by first | rfl | decide) dX3_weeksToWait_22 (⟨(by first | assumption | omega), rfl⟩) (Nat.le_of_ble_eq_true rfl) (Nat.le_of_ble_eq_true rfl)

abbrev rm_X3_weeksToWait_2 : Room := { frames := 9, cells := 6, slots := 36, locals := 330 }
set_option maxHeartbeats 4000000 in
set_option maxRecDepth 100000 in
theorem mt_X3_weeksToWait_2 (l : Launch) (hst : l.stackTraces = false) (D : va_G) (cI cS cJ : ClassId) (a : Nat → Nat) (x : Nat → Int → Int) (y : Nat → Int → Int) (hI : IX x) : cT l yX3_weeksToWait wsX3_weeksToWait rm_X3_weeksToWait_2 [.ref (a 0), iv 2] D (tyL cI cS cJ) [(a 0, ob 3 [.ref (a 1), .ref (a 3), .ref (a 4)]), (a 1, ob 1 [.ref (a 2), iv (x 0 0), iv (x 0 1), iv (x 0 2), iv (x 0 3), iv (x 0 4), iv (x 0 5)]), (a 2, ar cI 5 (x 1)), (a 3, .inl (cS, 3, .inr (.inr (.inr (.inr (fun j => some (a (9 + j)))))))), (a 4, ob 0 [.ref (a 5), .ref (a 6), .ref (a 7), .ref (a 8), iv (y 0 0), iv (y 0 1), iv (y 0 2), iv (y 0 3), iv (y 0 4), iv (y 0 5), iv (y 0 6), iv (y 0 7)]), (a 5, ar cI 5 (y 1)), (a 6, ar cI 5 (y 2)), (a 7, ar cI 3050 (y 3)), (a 8, ar cI 6 (y 4)), (a 9, ob 2 [.ref (a 12), .ref (a 15), iv (x 4 0), iv (x 5 0), iv (x 6 0)]), (a 12, ar cI 5 (fun z : Int => x 2 (5 * 0 + z))), (a 15, ar cI 3 (fun z : Int => x 3 (3 * 0 + z))), (a 10, ob 2 [.ref (a 13), .ref (a 16), iv (x 4 1), iv (x 5 1), iv (x 6 1)]), (a 13, ar cI 5 (fun z : Int => x 2 (5 * 1 + z))), (a 16, ar cI 3 (fun z : Int => x 3 (3 * 1 + z))), (a 11, ob 2 [.ref (a 14), .ref (a 17), iv (x 4 2), iv (x 5 2), iv (x 6 2)]), (a 14, ar cI 5 (fun z : Int => x 2 (5 * 2 + z))), (a 17, ar cI 3 (fun z : Int => x 3 (3 * 2 + z)))] (fun r_ => ((0 ≤ (2 : Int) ∧ (2 : Int) < 3)) ∧ r_ = some (iv (wtv (x 5 2) (x 0 2) (x 0 1)))) (fun E_ => (E_ = xIA ∧ ¬ (0 ≤ (2 : Int) ∧ (2 : Int) < 3))) 6 36 := by
  refine en_T (cc := cX3_weeksToWait) (maxL := 2) (ret := (some .int)) (by decide) rfl (Nat.le_of_ble_eq_true rfl) ?_
  intro p e s m args below meth c ls hX hE hP hK hZ hnt hl Q hQ
  obtain ⟨hx, hb, hr, hml, hts, hown, hlocks, hnm⟩ := hX
  have hown : s.vm.findClass RX3 = some m.cls := hown
  have hl : lv_has ls 2 [(0, .ref (a 0)), (1, iv 2)] := hl
  have inX1 : ∀ w ∈ u_ws RX1 TX1 7, w ∈ wsX3_weeksToWait := by decide +kernel
  have inX3 : ∀ w ∈ u_ws RX3 TX3 3, w ∈ wsX3_weeksToWait := by decide +kernel
  have w0 : (Cond.fieldLink RX3 12 RX3 "season" "LMarkdownPlanner$Season;").before args s = true := hts _ (by decide +kernel)
  have w1 : (Cond.initialized RX2).before args s = true := hts _ (by decide +kernel)
  have w2 : (Cond.instanceMethod yX2_waitFrom).before args s = true := hts _ (by decide +kernel)
  have w3 : (Cond.selects RX2 yX2_waitFrom yX2_waitFrom).before args s = true := hts _ (by decide +kernel)
  obtain ⟨hx00, hx01, hx02, hx03, hx04, hx1, hx2, hx3, hx4, hx5⟩ := id hI
  obtain ⟨hs2n, hs2w⟩ := ix_sk hI (i := 2) (by decide)
  have hs2t := ix_st hI (i := 2) (by decide)
  have hs2l := ix_la hI (i := 2) (by decide)
  refine lv_aload_n hx hb dX3_weeksToWait_0 rfl (lv_at hl 0 rfl) ?_
  refine lv_iload_n hx hb dX3_weeksToWait_1 rfl (lv_at hl 1 rfl) ?_
  refine ms_T (vx_runV (As := [iv 2]) (rest := []) ⟨hx, hb, hml, hown, hts⟩ (mt_X3_storeOf_2 l hst D cI cS cJ a (a 0) (a 1) (a 3) (a 4)) (cwV 1 hts gX3_weeksToWait_X3_storeOf rfl rfl rfl (by decide +kernel) ⟨Nat.le_of_ble_eq_true rfl, Nat.le_of_ble_eq_true rfl⟩) (pc_V (ci := 3) (q0 := 0) hK (hP.sub (ws' := [(a 0, ob 3 [.ref (a 1), .ref (a 3), .ref (a 4)]), (a 3, .inl (cS, 3, .inr (.inr (.inr (.inr (fun j => some (a (9 + j))))))))]) [0, 3] rfl) rfl rfl (pcT_S hE hK (hP.sub (ws' := [(a 0, ob 3 [.ref (a 1), .ref (a 3), .ref (a 4)]), (a 3, .inl (cS, 3, .inr (.inr (.inr (.inr (fun j => some (a (9 + j))))))))]) [0, 3] rfl) hZ)) rfl rfl hl.1 rfl (lv_room (Nat.le_of_ble_eq_true rfl)) dX3_weeksToWait_2 ⟨Nat.le_of_ble_eq_true rfl, Nat.le_of_ble_eq_true rfl⟩) (fun E9 ce9 q9 H1 hTX hz9 hk9 hce hcv hcl => ?_) (fun r_ hq_ => ?_)
  · skip
    subst hQ
    exact r_out hnt hlocks (by first | exact hTX | exact ⟨hTX, by omega⟩ | exact Or.inl ⟨hTX, by omega⟩ | (obtain ⟨e9, h9⟩ := hTX; exact ⟨e9, by omega⟩) | (rcases hTX with ⟨e9, h9⟩ | ⟨e9, h9⟩ <;> first | exact Or.inl ⟨e9, by omega⟩ | exact Or.inr ⟨e9, by omega⟩) | (obtain ⟨e9, h9⟩ := hTX; first | exact Or.inl ⟨e9, by omega⟩ | exact Or.inr ⟨e9, by omega⟩)) hz9 hk9 hce hcv hcl (fun _ h => by cases h) (Nat.le_of_ble_eq_true rfl) (Nat.le_of_ble_eq_true rfl)
  subst hq_
  refine lv_aload_n hx hb dX3_weeksToWait_5 rfl (lv_at hl 0 rfl) ?_
  refine va_get (D := D) (ci := 3) (v := .ref (a 1)) (C := RX3) (T := TX3) (N := 3) hx hb hts inX3 hown hK hP 0 rfl rfl 0 (by decide) w0 (fun _ h9 => h9) rfl dX3_weeksToWait_6 ?_
  refine va_getN (D := D) (ci := 1) (v := iv (x 0 1)) (C := RX1) (T := TX1) (N := 7) hx hb hts inX1 hown hK hP 1 rfl rfl 2 (by decide) (hE.at 4 rfl) (fun _ h9 => h9) rfl dX3_weeksToWait_9 ?_
  refine lv_aload_n hx hb dX3_weeksToWait_12 rfl (lv_at hl 0 rfl) ?_
  refine va_get (D := D) (ci := 3) (v := .ref (a 1)) (C := RX3) (T := TX3) (N := 3) hx hb hts inX3 hown hK hP 0 rfl rfl 0 (by decide) w0 (fun _ h9 => h9) rfl dX3_weeksToWait_13 ?_
  refine va_getN (D := D) (ci := 1) (v := iv (x 0 2)) (C := RX1) (T := TX1) (N := 7) hx hb hts inX1 hown hK hP 1 rfl rfl 3 (by decide) (hE.at 7 rfl) (fun _ h9 => h9) rfl dX3_weeksToWait_16 ?_
  refine ms_P (va_runVN (As := [iv (x 0 1), iv (x 0 2)]) (rest := []) ⟨hx, hb, hml, hown, hts⟩ (mt_X2_waitFrom l D cI cS cJ (a 11) (a 14) (a 17) (fun z : Int => x 2 (5 * 2 + z)) (fun z : Int => x 3 (3 * 2 + z)) (x 4 2) (x 5 2) (x 6 2) (x 0 1) (x 0 2) (by omega) (by omega) (by omega)) ⟨va_cnB 2 hts gX3_weeksToWait_X2_waitFrom_n96 rfl rfl rfl (hE.nw 26 rfl) w1 (by decide +kernel) ⟨Nat.le_of_ble_eq_true rfl, Nat.le_of_ble_eq_true rfl⟩, w2, w3⟩ (pc_V (ci := 2) (q0 := 0) hK (hP.sub (ws' := [(a 11, ob 2 [.ref (a 14), .ref (a 17), iv (x 4 2), iv (x 5 2), iv (x 6 2)]), (a 14, ar cI 5 (fun z : Int => x 2 (5 * 2 + z))), (a 17, ar cI 3 (fun z : Int => x 3 (3 * 2 + z)))]) [15, 16, 17] rfl) rfl rfl (pcP_S hE hK (hP.sub (ws' := [(a 11, ob 2 [.ref (a 14), .ref (a 17), iv (x 4 2), iv (x 5 2), iv (x 6 2)]), (a 14, ar cI 5 (fun z : Int => x 2 (5 * 2 + z))), (a 17, ar cI 3 (fun z : Int => x 3 (3 * 2 + z)))]) [15, 16, 17] rfl))) rfl rfl hl.1 rfl (lv_room (Nat.le_of_ble_eq_true rfl)) dX3_weeksToWait_19 ⟨Nat.le_of_ble_eq_true rfl, Nat.le_of_ble_eq_true rfl⟩) ?_
  subst hQ
  exact r_Ti hx hb hr hlocks (by first | rfl | decide) dX3_weeksToWait_22 (⟨(by first | assumption | omega), rfl⟩) (Nat.le_of_ble_eq_true rfl) (Nat.le_of_ble_eq_true rfl)

abbrev rm_X3_weeksToWait_out : Room := { frames := 9, cells := 6, slots := 36, locals := 330 }
set_option maxHeartbeats 4000000 in
set_option maxRecDepth 100000 in
theorem mt_X3_weeksToWait_out (l : Launch) (hst : l.stackTraces = false) (D : va_G) (cI cS cJ : ClassId) (a : Nat → Nat) (x : Nat → Int → Int) (y : Nat → Int → Int) (i : Int) (hI : IX x) (bi : -2147483648 ≤ i ∧ i < 2147483648) (hno : ¬ (0 ≤ i ∧ i < 3)) : cT l yX3_weeksToWait wsX3_weeksToWait rm_X3_weeksToWait_out [.ref (a 0), iv i] D (tyL cI cS cJ) [(a 0, ob 3 [.ref (a 1), .ref (a 3), .ref (a 4)]), (a 1, ob 1 [.ref (a 2), iv (x 0 0), iv (x 0 1), iv (x 0 2), iv (x 0 3), iv (x 0 4), iv (x 0 5)]), (a 2, ar cI 5 (x 1)), (a 3, .inl (cS, 3, .inr (.inr (.inr (.inr (fun j => some (a (9 + j)))))))), (a 4, ob 0 [.ref (a 5), .ref (a 6), .ref (a 7), .ref (a 8), iv (y 0 0), iv (y 0 1), iv (y 0 2), iv (y 0 3), iv (y 0 4), iv (y 0 5), iv (y 0 6), iv (y 0 7)]), (a 5, ar cI 5 (y 1)), (a 6, ar cI 5 (y 2)), (a 7, ar cI 3050 (y 3)), (a 8, ar cI 6 (y 4)), (a 9, ob 2 [.ref (a 12), .ref (a 15), iv (x 4 0), iv (x 5 0), iv (x 6 0)]), (a 12, ar cI 5 (fun z : Int => x 2 (5 * 0 + z))), (a 15, ar cI 3 (fun z : Int => x 3 (3 * 0 + z))), (a 10, ob 2 [.ref (a 13), .ref (a 16), iv (x 4 1), iv (x 5 1), iv (x 6 1)]), (a 13, ar cI 5 (fun z : Int => x 2 (5 * 1 + z))), (a 16, ar cI 3 (fun z : Int => x 3 (3 * 1 + z))), (a 11, ob 2 [.ref (a 14), .ref (a 17), iv (x 4 2), iv (x 5 2), iv (x 6 2)]), (a 14, ar cI 5 (fun z : Int => x 2 (5 * 2 + z))), (a 17, ar cI 3 (fun z : Int => x 3 (3 * 2 + z)))] (fun r_ => ((0 ≤ i ∧ i < 3)) ∧ r_ = some (iv (wtv (x 5 i) (x 0 2) (x 0 1)))) (fun E_ => (E_ = xIA ∧ ¬ (0 ≤ i ∧ i < 3))) 6 36 := by
  refine en_T (cc := cX3_weeksToWait) (maxL := 2) (ret := (some .int)) (by decide) rfl (Nat.le_of_ble_eq_true rfl) ?_
  intro p e s m args below meth c ls hX hE hP hK hZ hnt hl Q hQ
  obtain ⟨hx, hb, hr, hml, hts, hown, hlocks, hnm⟩ := hX
  have hown : s.vm.findClass RX3 = some m.cls := hown
  have hl : lv_has ls 2 [(0, .ref (a 0)), (1, iv i)] := hl
  obtain ⟨hx00, hx01, hx02, hx03, hx04, hx1, hx2, hx3, hx4, hx5⟩ := id hI
  refine lv_aload_n hx hb dX3_weeksToWait_0 rfl (lv_at hl 0 rfl) ?_
  refine lv_iload_n hx hb dX3_weeksToWait_1 rfl (lv_at hl 1 rfl) ?_
  refine ms_T (vx_runV (As := [iv i]) (rest := []) ⟨hx, hb, hml, hown, hts⟩ (mt_X3_storeOf_out l hst D cI cS cJ a (a 0) (a 1) (a 3) (a 4) i (by omega) (by omega)) (cwV 1 hts gX3_weeksToWait_X3_storeOf rfl rfl rfl (by decide +kernel) ⟨Nat.le_of_ble_eq_true rfl, Nat.le_of_ble_eq_true rfl⟩) (pc_V (ci := 3) (q0 := 0) hK (hP.sub (ws' := [(a 0, ob 3 [.ref (a 1), .ref (a 3), .ref (a 4)]), (a 3, .inl (cS, 3, .inr (.inr (.inr (.inr (fun j => some (a (9 + j))))))))]) [0, 3] rfl) rfl rfl (pcT_S hE hK (hP.sub (ws' := [(a 0, ob 3 [.ref (a 1), .ref (a 3), .ref (a 4)]), (a 3, .inl (cS, 3, .inr (.inr (.inr (.inr (fun j => some (a (9 + j))))))))]) [0, 3] rfl) hZ)) rfl rfl hl.1 rfl (lv_room (Nat.le_of_ble_eq_true rfl)) dX3_weeksToWait_2 ⟨Nat.le_of_ble_eq_true rfl, Nat.le_of_ble_eq_true rfl⟩) (fun E9 ce9 q9 H1 hTX hz9 hk9 hce hcv hcl => ?_) (fun r_ hq_ => ?_)
  · skip
    subst hQ
    exact r_out hnt hlocks (by first | exact hTX | exact ⟨hTX, by omega⟩ | exact Or.inl ⟨hTX, by omega⟩ | (obtain ⟨e9, h9⟩ := hTX; exact ⟨e9, by omega⟩) | (rcases hTX with ⟨e9, h9⟩ | ⟨e9, h9⟩ <;> first | exact Or.inl ⟨e9, by omega⟩ | exact Or.inr ⟨e9, by omega⟩) | (obtain ⟨e9, h9⟩ := hTX; first | exact Or.inl ⟨e9, by omega⟩ | exact Or.inr ⟨e9, by omega⟩)) hz9 hk9 hce hcv hcl (fun _ h => by cases h) (Nat.le_of_ble_eq_true rfl) (Nat.le_of_ble_eq_true rfl)
  obtain ⟨hf_1, rfl⟩ := hq_
  exact hf_1.elim

abbrev rm_X3_weeksToWait : Room := { frames := 9, cells := 6, slots := 36, locals := 330 }
set_option maxHeartbeats 4000000 in
set_option maxRecDepth 100000 in
theorem mt_X3_weeksToWait (l : Launch) (hst : l.stackTraces = false) (D : va_G) (cI cS cJ : ClassId) (a : Nat → Nat) (x : Nat → Int → Int) (y : Nat → Int → Int) (i : Int) (hI : IX x) (bi : -2147483648 ≤ i ∧ i < 2147483648) : cT l yX3_weeksToWait wsX3_weeksToWait rm_X3_weeksToWait [.ref (a 0), iv i] D (tyL cI cS cJ) [(a 0, ob 3 [.ref (a 1), .ref (a 3), .ref (a 4)]), (a 1, ob 1 [.ref (a 2), iv (x 0 0), iv (x 0 1), iv (x 0 2), iv (x 0 3), iv (x 0 4), iv (x 0 5)]), (a 2, ar cI 5 (x 1)), (a 3, .inl (cS, 3, .inr (.inr (.inr (.inr (fun j => some (a (9 + j)))))))), (a 4, ob 0 [.ref (a 5), .ref (a 6), .ref (a 7), .ref (a 8), iv (y 0 0), iv (y 0 1), iv (y 0 2), iv (y 0 3), iv (y 0 4), iv (y 0 5), iv (y 0 6), iv (y 0 7)]), (a 5, ar cI 5 (y 1)), (a 6, ar cI 5 (y 2)), (a 7, ar cI 3050 (y 3)), (a 8, ar cI 6 (y 4)), (a 9, ob 2 [.ref (a 12), .ref (a 15), iv (x 4 0), iv (x 5 0), iv (x 6 0)]), (a 12, ar cI 5 (fun z : Int => x 2 (5 * 0 + z))), (a 15, ar cI 3 (fun z : Int => x 3 (3 * 0 + z))), (a 10, ob 2 [.ref (a 13), .ref (a 16), iv (x 4 1), iv (x 5 1), iv (x 6 1)]), (a 13, ar cI 5 (fun z : Int => x 2 (5 * 1 + z))), (a 16, ar cI 3 (fun z : Int => x 3 (3 * 1 + z))), (a 11, ob 2 [.ref (a 14), .ref (a 17), iv (x 4 2), iv (x 5 2), iv (x 6 2)]), (a 14, ar cI 5 (fun z : Int => x 2 (5 * 2 + z))), (a 17, ar cI 3 (fun z : Int => x 3 (3 * 2 + z)))] (fun r_ => ((0 ≤ i ∧ i < 3)) ∧ r_ = some (iv (wtv (x 5 i) (x 0 2) (x 0 1)))) (fun E_ => (E_ = xIA ∧ ¬ (0 ≤ i ∧ i < 3))) 6 36 := by
  rcases (show i = 0 ∨ i = 1 ∨ i = 2 ∨ ¬ (0 ≤ i ∧ i < 3) by omega) with rfl | rfl | rfl | hno_i
  · skip
    exact mt_X3_weeksToWait_0 l hst D cI cS cJ a x y  hI
  · skip
    exact mt_X3_weeksToWait_1 l hst D cI cS cJ a x y  hI
  · skip
    exact mt_X3_weeksToWait_2 l hst D cI cS cJ a x y  hI
  · skip
    exact mt_X3_weeksToWait_out l hst D cI cS cJ a x y i hI bi hno_i

abbrev rm_X3_wouldSell_0 : Room := { frames := 9, cells := 6, slots := 36, locals := 330 }
set_option maxHeartbeats 4000000 in
set_option maxRecDepth 100000 in
theorem mt_X3_wouldSell_0 (l : Launch) (hst : l.stackTraces = false) (D : va_G) (cI cS cJ : ClassId) (a : Nat → Nat) (x : Nat → Int → Int) (y : Nat → Int → Int) (j : Int) (hI : IX x) (bj : -2147483648 ≤ j ∧ j < 2147483648) : cT l yX3_wouldSell wsX3_wouldSell rm_X3_wouldSell_0 [.ref (a 0), iv 0, iv j] D (tyL cI cS cJ) [(a 0, ob 3 [.ref (a 1), .ref (a 3), .ref (a 4)]), (a 1, ob 1 [.ref (a 2), iv (x 0 0), iv (x 0 1), iv (x 0 2), iv (x 0 3), iv (x 0 4), iv (x 0 5)]), (a 2, ar cI 5 (x 1)), (a 3, .inl (cS, 3, .inr (.inr (.inr (.inr (fun j => some (a (9 + j)))))))), (a 4, ob 0 [.ref (a 5), .ref (a 6), .ref (a 7), .ref (a 8), iv (y 0 0), iv (y 0 1), iv (y 0 2), iv (y 0 3), iv (y 0 4), iv (y 0 5), iv (y 0 6), iv (y 0 7)]), (a 5, ar cI 5 (y 1)), (a 6, ar cI 5 (y 2)), (a 7, ar cI 3050 (y 3)), (a 8, ar cI 6 (y 4)), (a 9, ob 2 [.ref (a 12), .ref (a 15), iv (x 4 0), iv (x 5 0), iv (x 6 0)]), (a 12, ar cI 5 (fun z : Int => x 2 (5 * 0 + z))), (a 15, ar cI 3 (fun z : Int => x 3 (3 * 0 + z))), (a 10, ob 2 [.ref (a 13), .ref (a 16), iv (x 4 1), iv (x 5 1), iv (x 6 1)]), (a 13, ar cI 5 (fun z : Int => x 2 (5 * 1 + z))), (a 16, ar cI 3 (fun z : Int => x 3 (3 * 1 + z))), (a 11, ob 2 [.ref (a 14), .ref (a 17), iv (x 4 2), iv (x 5 2), iv (x 6 2)]), (a 14, ar cI 5 (fun z : Int => x 2 (5 * 2 + z))), (a 17, ar cI 3 (fun z : Int => x 3 (3 * 2 + z)))] (fun r_ => (((0 ≤ (0 : Int) ∧ (0 : Int) < 3) ∧ 0 ≤ j ∧ j < 5)) ∧ r_ = some (iv (slv (x 2 (5 * 0 + j)) (fun z : Int => x 3 (3 * 0 + z))))) (fun E_ => (E_ = xIA ∧ ¬ ((0 ≤ (0 : Int) ∧ (0 : Int) < 3) ∧ 0 ≤ j ∧ j < 5))) 6 36 := by
  refine en_T (cc := cX3_wouldSell) (maxL := 4) (ret := (some .int)) (by decide) rfl (Nat.le_of_ble_eq_true rfl) ?_
  intro p e s m args below meth c ls hX hE hP hK hZ hnt hl Q hQ
  obtain ⟨hx, hb, hr, hml, hts, hown, hlocks, hnm⟩ := hX
  have hown : s.vm.findClass RX3 = some m.cls := hown
  have hl : lv_has ls 4 [(0, .ref (a 0)), (1, iv 0), (2, iv j)] := hl
  have w0 : (Cond.initialized RX2).before args s = true := hts _ (by decide +kernel)
  have w1 : (Cond.instanceMethod yX2_salesAt).before args s = true := hts _ (by decide +kernel)
  have w2 : (Cond.selects RX2 yX2_salesAt yX2_salesAt).before args s = true := hts _ (by decide +kernel)
  obtain ⟨hx00, hx01, hx02, hx03, hx04, hx1, hx2, hx3, hx4, hx5⟩ := id hI
  obtain ⟨hs0n, hs0w⟩ := ix_sk hI (i := 0) (by decide)
  have hs0t := ix_st hI (i := 0) (by decide)
  have hs0l := ix_la hI (i := 0) (by decide)
  refine lv_aload_n hx hb dX3_wouldSell_0 rfl (lv_at hl 0 rfl) ?_
  refine lv_iload_n hx hb dX3_wouldSell_1 rfl (lv_at hl 1 rfl) ?_
  refine ms_T (vx_runV (As := [iv 0]) (rest := []) ⟨hx, hb, hml, hown, hts⟩ (mt_X3_storeOf_0 l hst D cI cS cJ a (a 0) (a 1) (a 3) (a 4)) (cwV 1 hts gX3_wouldSell_X3_storeOf rfl rfl rfl (by decide +kernel) ⟨Nat.le_of_ble_eq_true rfl, Nat.le_of_ble_eq_true rfl⟩) (pc_V (ci := 3) (q0 := 0) hK (hP.sub (ws' := [(a 0, ob 3 [.ref (a 1), .ref (a 3), .ref (a 4)]), (a 3, .inl (cS, 3, .inr (.inr (.inr (.inr (fun j => some (a (9 + j))))))))]) [0, 3] rfl) rfl rfl (pcT_S hE hK (hP.sub (ws' := [(a 0, ob 3 [.ref (a 1), .ref (a 3), .ref (a 4)]), (a 3, .inl (cS, 3, .inr (.inr (.inr (.inr (fun j => some (a (9 + j))))))))]) [0, 3] rfl) hZ)) rfl rfl hl.1 rfl (lv_room (Nat.le_of_ble_eq_true rfl)) dX3_wouldSell_2 ⟨Nat.le_of_ble_eq_true rfl, Nat.le_of_ble_eq_true rfl⟩) (fun E9 ce9 q9 H1 hTX hz9 hk9 hce hcv hcl => ?_) (fun r_ hq_ => ?_)
  · skip
    subst hQ
    exact r_out hnt hlocks (by first | exact hTX | exact ⟨hTX, by omega⟩ | exact Or.inl ⟨hTX, by omega⟩ | (obtain ⟨e9, h9⟩ := hTX; exact ⟨e9, by omega⟩) | (rcases hTX with ⟨e9, h9⟩ | ⟨e9, h9⟩ <;> first | exact Or.inl ⟨e9, by omega⟩ | exact Or.inr ⟨e9, by omega⟩) | (obtain ⟨e9, h9⟩ := hTX; first | exact Or.inl ⟨e9, by omega⟩ | exact Or.inr ⟨e9, by omega⟩)) hz9 hk9 hce hcv hcl (fun _ h => by cases h) (Nat.le_of_ble_eq_true rfl) (Nat.le_of_ble_eq_true rfl)
  subst hq_
  refine lv_astore_n (lv' := [(3, .ref (a 9)), (0, .ref (a 0)), (1, iv 0), (2, iv j)]) hx hb dX3_wouldSell_5 rfl hl (by decide) rfl (fun ls hl => ?_)
  refine lv_iload_n hx hb dX3_wouldSell_6 rfl (lv_at hl 3 rfl) ?_
  refine ms_T (vx_runS (As := [iv j]) (rest := []) ⟨hx, hb, hml, hown, hts⟩ (mt_X3_requireStep l hst D cI cS cJ j (by omega)) (va_cwS 1 hts gX3_wouldSell_X3_requireStep rfl rfl rfl (by decide +kernel) ⟨Nat.le_of_ble_eq_true rfl, Nat.le_of_ble_eq_true rfl⟩) (pcT_S hE hK (hP.sub (ws' := []) [] rfl) hZ) rfl rfl hl.1 rfl (lv_room (Nat.le_of_ble_eq_true rfl)) dX3_wouldSell_7 ⟨Nat.le_of_ble_eq_true rfl, Nat.le_of_ble_eq_true rfl⟩) (fun E9 ce9 q9 H1 hTX hz9 hk9 hce hcv hcl => ?_) (fun r_ hq_ => ?_)
  · skip
    subst hQ
    exact r_out hnt hlocks (by first | exact hTX | exact ⟨hTX, by omega⟩ | exact Or.inl ⟨hTX, by omega⟩ | (obtain ⟨e9, h9⟩ := hTX; exact ⟨e9, by omega⟩) | (rcases hTX with ⟨e9, h9⟩ | ⟨e9, h9⟩ <;> first | exact Or.inl ⟨e9, by omega⟩ | exact Or.inr ⟨e9, by omega⟩) | (obtain ⟨e9, h9⟩ := hTX; first | exact Or.inl ⟨e9, by omega⟩ | exact Or.inr ⟨e9, by omega⟩)) hz9 hk9 hce hcv hcl (fun _ h => by cases h) (Nat.le_of_ble_eq_true rfl) (Nat.le_of_ble_eq_true rfl)
  obtain ⟨hf_1, rfl⟩ := hq_
  refine lv_aload_n hx hb dX3_wouldSell_10 rfl (lv_at hl 0 rfl) ?_
  refine lv_iload_n hx hb dX3_wouldSell_11 rfl (lv_at hl 3 rfl) ?_
  refine ms_P (va_runVN (As := [iv j]) (rest := []) ⟨hx, hb, hml, hown, hts⟩ (mt_X2_salesAt l D cI cS cJ (a 9) (a 12) (a 15) (fun z : Int => x 2 (5 * 0 + z)) (fun z : Int => x 3 (3 * 0 + z)) (x 4 0) (x 5 0) (x 6 0) j (hs0n) (hs0w) (by omega) (hx2 0 j (by decide) (by decide) (by omega) (by omega))) ⟨va_cnB 1 hts gX3_wouldSell_X2_salesAt_n122 rfl rfl rfl (hE.nw 28 rfl) w0 (by decide +kernel) ⟨Nat.le_of_ble_eq_true rfl, Nat.le_of_ble_eq_true rfl⟩, w1, w2⟩ (pc_V (ci := 2) (q0 := 0) hK (hP.sub (ws' := [(a 9, ob 2 [.ref (a 12), .ref (a 15), iv (x 4 0), iv (x 5 0), iv (x 6 0)]), (a 12, ar cI 5 (fun z : Int => x 2 (5 * 0 + z))), (a 15, ar cI 3 (fun z : Int => x 3 (3 * 0 + z)))]) [9, 10, 11] rfl) rfl rfl (pcP_S hE hK (hP.sub (ws' := [(a 9, ob 2 [.ref (a 12), .ref (a 15), iv (x 4 0), iv (x 5 0), iv (x 6 0)]), (a 12, ar cI 5 (fun z : Int => x 2 (5 * 0 + z))), (a 15, ar cI 3 (fun z : Int => x 3 (3 * 0 + z)))]) [9, 10, 11] rfl))) rfl rfl hl.1 rfl (lv_room (Nat.le_of_ble_eq_true rfl)) dX3_wouldSell_12 ⟨Nat.le_of_ble_eq_true rfl, Nat.le_of_ble_eq_true rfl⟩) ?_
  subst hQ
  exact r_Ti hx hb hr hlocks (by first | rfl | decide) dX3_wouldSell_15 (⟨(by first | assumption | omega), rfl⟩) (Nat.le_of_ble_eq_true rfl) (Nat.le_of_ble_eq_true rfl)

abbrev rm_X3_wouldSell_1 : Room := { frames := 9, cells := 6, slots := 36, locals := 330 }
set_option maxHeartbeats 4000000 in
set_option maxRecDepth 100000 in
theorem mt_X3_wouldSell_1 (l : Launch) (hst : l.stackTraces = false) (D : va_G) (cI cS cJ : ClassId) (a : Nat → Nat) (x : Nat → Int → Int) (y : Nat → Int → Int) (j : Int) (hI : IX x) (bj : -2147483648 ≤ j ∧ j < 2147483648) : cT l yX3_wouldSell wsX3_wouldSell rm_X3_wouldSell_1 [.ref (a 0), iv 1, iv j] D (tyL cI cS cJ) [(a 0, ob 3 [.ref (a 1), .ref (a 3), .ref (a 4)]), (a 1, ob 1 [.ref (a 2), iv (x 0 0), iv (x 0 1), iv (x 0 2), iv (x 0 3), iv (x 0 4), iv (x 0 5)]), (a 2, ar cI 5 (x 1)), (a 3, .inl (cS, 3, .inr (.inr (.inr (.inr (fun j => some (a (9 + j)))))))), (a 4, ob 0 [.ref (a 5), .ref (a 6), .ref (a 7), .ref (a 8), iv (y 0 0), iv (y 0 1), iv (y 0 2), iv (y 0 3), iv (y 0 4), iv (y 0 5), iv (y 0 6), iv (y 0 7)]), (a 5, ar cI 5 (y 1)), (a 6, ar cI 5 (y 2)), (a 7, ar cI 3050 (y 3)), (a 8, ar cI 6 (y 4)), (a 9, ob 2 [.ref (a 12), .ref (a 15), iv (x 4 0), iv (x 5 0), iv (x 6 0)]), (a 12, ar cI 5 (fun z : Int => x 2 (5 * 0 + z))), (a 15, ar cI 3 (fun z : Int => x 3 (3 * 0 + z))), (a 10, ob 2 [.ref (a 13), .ref (a 16), iv (x 4 1), iv (x 5 1), iv (x 6 1)]), (a 13, ar cI 5 (fun z : Int => x 2 (5 * 1 + z))), (a 16, ar cI 3 (fun z : Int => x 3 (3 * 1 + z))), (a 11, ob 2 [.ref (a 14), .ref (a 17), iv (x 4 2), iv (x 5 2), iv (x 6 2)]), (a 14, ar cI 5 (fun z : Int => x 2 (5 * 2 + z))), (a 17, ar cI 3 (fun z : Int => x 3 (3 * 2 + z)))] (fun r_ => (((0 ≤ (1 : Int) ∧ (1 : Int) < 3) ∧ 0 ≤ j ∧ j < 5)) ∧ r_ = some (iv (slv (x 2 (5 * 1 + j)) (fun z : Int => x 3 (3 * 1 + z))))) (fun E_ => (E_ = xIA ∧ ¬ ((0 ≤ (1 : Int) ∧ (1 : Int) < 3) ∧ 0 ≤ j ∧ j < 5))) 6 36 := by
  refine en_T (cc := cX3_wouldSell) (maxL := 4) (ret := (some .int)) (by decide) rfl (Nat.le_of_ble_eq_true rfl) ?_
  intro p e s m args below meth c ls hX hE hP hK hZ hnt hl Q hQ
  obtain ⟨hx, hb, hr, hml, hts, hown, hlocks, hnm⟩ := hX
  have hown : s.vm.findClass RX3 = some m.cls := hown
  have hl : lv_has ls 4 [(0, .ref (a 0)), (1, iv 1), (2, iv j)] := hl
  have w0 : (Cond.initialized RX2).before args s = true := hts _ (by decide +kernel)
  have w1 : (Cond.instanceMethod yX2_salesAt).before args s = true := hts _ (by decide +kernel)
  have w2 : (Cond.selects RX2 yX2_salesAt yX2_salesAt).before args s = true := hts _ (by decide +kernel)
  obtain ⟨hx00, hx01, hx02, hx03, hx04, hx1, hx2, hx3, hx4, hx5⟩ := id hI
  obtain ⟨hs1n, hs1w⟩ := ix_sk hI (i := 1) (by decide)
  have hs1t := ix_st hI (i := 1) (by decide)
  have hs1l := ix_la hI (i := 1) (by decide)
  refine lv_aload_n hx hb dX3_wouldSell_0 rfl (lv_at hl 0 rfl) ?_
  refine lv_iload_n hx hb dX3_wouldSell_1 rfl (lv_at hl 1 rfl) ?_
  refine ms_T (vx_runV (As := [iv 1]) (rest := []) ⟨hx, hb, hml, hown, hts⟩ (mt_X3_storeOf_1 l hst D cI cS cJ a (a 0) (a 1) (a 3) (a 4)) (cwV 1 hts gX3_wouldSell_X3_storeOf rfl rfl rfl (by decide +kernel) ⟨Nat.le_of_ble_eq_true rfl, Nat.le_of_ble_eq_true rfl⟩) (pc_V (ci := 3) (q0 := 0) hK (hP.sub (ws' := [(a 0, ob 3 [.ref (a 1), .ref (a 3), .ref (a 4)]), (a 3, .inl (cS, 3, .inr (.inr (.inr (.inr (fun j => some (a (9 + j))))))))]) [0, 3] rfl) rfl rfl (pcT_S hE hK (hP.sub (ws' := [(a 0, ob 3 [.ref (a 1), .ref (a 3), .ref (a 4)]), (a 3, .inl (cS, 3, .inr (.inr (.inr (.inr (fun j => some (a (9 + j))))))))]) [0, 3] rfl) hZ)) rfl rfl hl.1 rfl (lv_room (Nat.le_of_ble_eq_true rfl)) dX3_wouldSell_2 ⟨Nat.le_of_ble_eq_true rfl, Nat.le_of_ble_eq_true rfl⟩) (fun E9 ce9 q9 H1 hTX hz9 hk9 hce hcv hcl => ?_) (fun r_ hq_ => ?_)
  · skip
    subst hQ
    exact r_out hnt hlocks (by first | exact hTX | exact ⟨hTX, by omega⟩ | exact Or.inl ⟨hTX, by omega⟩ | (obtain ⟨e9, h9⟩ := hTX; exact ⟨e9, by omega⟩) | (rcases hTX with ⟨e9, h9⟩ | ⟨e9, h9⟩ <;> first | exact Or.inl ⟨e9, by omega⟩ | exact Or.inr ⟨e9, by omega⟩) | (obtain ⟨e9, h9⟩ := hTX; first | exact Or.inl ⟨e9, by omega⟩ | exact Or.inr ⟨e9, by omega⟩)) hz9 hk9 hce hcv hcl (fun _ h => by cases h) (Nat.le_of_ble_eq_true rfl) (Nat.le_of_ble_eq_true rfl)
  subst hq_
  refine lv_astore_n (lv' := [(3, .ref (a 10)), (0, .ref (a 0)), (1, iv 1), (2, iv j)]) hx hb dX3_wouldSell_5 rfl hl (by decide) rfl (fun ls hl => ?_)
  refine lv_iload_n hx hb dX3_wouldSell_6 rfl (lv_at hl 3 rfl) ?_
  refine ms_T (vx_runS (As := [iv j]) (rest := []) ⟨hx, hb, hml, hown, hts⟩ (mt_X3_requireStep l hst D cI cS cJ j (by omega)) (va_cwS 1 hts gX3_wouldSell_X3_requireStep rfl rfl rfl (by decide +kernel) ⟨Nat.le_of_ble_eq_true rfl, Nat.le_of_ble_eq_true rfl⟩) (pcT_S hE hK (hP.sub (ws' := []) [] rfl) hZ) rfl rfl hl.1 rfl (lv_room (Nat.le_of_ble_eq_true rfl)) dX3_wouldSell_7 ⟨Nat.le_of_ble_eq_true rfl, Nat.le_of_ble_eq_true rfl⟩) (fun E9 ce9 q9 H1 hTX hz9 hk9 hce hcv hcl => ?_) (fun r_ hq_ => ?_)
  · skip
    subst hQ
    exact r_out hnt hlocks (by first | exact hTX | exact ⟨hTX, by omega⟩ | exact Or.inl ⟨hTX, by omega⟩ | (obtain ⟨e9, h9⟩ := hTX; exact ⟨e9, by omega⟩) | (rcases hTX with ⟨e9, h9⟩ | ⟨e9, h9⟩ <;> first | exact Or.inl ⟨e9, by omega⟩ | exact Or.inr ⟨e9, by omega⟩) | (obtain ⟨e9, h9⟩ := hTX; first | exact Or.inl ⟨e9, by omega⟩ | exact Or.inr ⟨e9, by omega⟩)) hz9 hk9 hce hcv hcl (fun _ h => by cases h) (Nat.le_of_ble_eq_true rfl) (Nat.le_of_ble_eq_true rfl)
  obtain ⟨hf_1, rfl⟩ := hq_
  refine lv_aload_n hx hb dX3_wouldSell_10 rfl (lv_at hl 0 rfl) ?_
  refine lv_iload_n hx hb dX3_wouldSell_11 rfl (lv_at hl 3 rfl) ?_
  refine ms_P (va_runVN (As := [iv j]) (rest := []) ⟨hx, hb, hml, hown, hts⟩ (mt_X2_salesAt l D cI cS cJ (a 10) (a 13) (a 16) (fun z : Int => x 2 (5 * 1 + z)) (fun z : Int => x 3 (3 * 1 + z)) (x 4 1) (x 5 1) (x 6 1) j (hs1n) (hs1w) (by omega) (hx2 1 j (by decide) (by decide) (by omega) (by omega))) ⟨va_cnB 1 hts gX3_wouldSell_X2_salesAt_n122 rfl rfl rfl (hE.nw 28 rfl) w0 (by decide +kernel) ⟨Nat.le_of_ble_eq_true rfl, Nat.le_of_ble_eq_true rfl⟩, w1, w2⟩ (pc_V (ci := 2) (q0 := 0) hK (hP.sub (ws' := [(a 10, ob 2 [.ref (a 13), .ref (a 16), iv (x 4 1), iv (x 5 1), iv (x 6 1)]), (a 13, ar cI 5 (fun z : Int => x 2 (5 * 1 + z))), (a 16, ar cI 3 (fun z : Int => x 3 (3 * 1 + z)))]) [12, 13, 14] rfl) rfl rfl (pcP_S hE hK (hP.sub (ws' := [(a 10, ob 2 [.ref (a 13), .ref (a 16), iv (x 4 1), iv (x 5 1), iv (x 6 1)]), (a 13, ar cI 5 (fun z : Int => x 2 (5 * 1 + z))), (a 16, ar cI 3 (fun z : Int => x 3 (3 * 1 + z)))]) [12, 13, 14] rfl))) rfl rfl hl.1 rfl (lv_room (Nat.le_of_ble_eq_true rfl)) dX3_wouldSell_12 ⟨Nat.le_of_ble_eq_true rfl, Nat.le_of_ble_eq_true rfl⟩) ?_
  subst hQ
  exact r_Ti hx hb hr hlocks (by first | rfl | decide) dX3_wouldSell_15 (⟨(by first | assumption | omega), rfl⟩) (Nat.le_of_ble_eq_true rfl) (Nat.le_of_ble_eq_true rfl)

abbrev rm_X3_wouldSell_2 : Room := { frames := 9, cells := 6, slots := 36, locals := 330 }
set_option maxHeartbeats 4000000 in
set_option maxRecDepth 100000 in
theorem mt_X3_wouldSell_2 (l : Launch) (hst : l.stackTraces = false) (D : va_G) (cI cS cJ : ClassId) (a : Nat → Nat) (x : Nat → Int → Int) (y : Nat → Int → Int) (j : Int) (hI : IX x) (bj : -2147483648 ≤ j ∧ j < 2147483648) : cT l yX3_wouldSell wsX3_wouldSell rm_X3_wouldSell_2 [.ref (a 0), iv 2, iv j] D (tyL cI cS cJ) [(a 0, ob 3 [.ref (a 1), .ref (a 3), .ref (a 4)]), (a 1, ob 1 [.ref (a 2), iv (x 0 0), iv (x 0 1), iv (x 0 2), iv (x 0 3), iv (x 0 4), iv (x 0 5)]), (a 2, ar cI 5 (x 1)), (a 3, .inl (cS, 3, .inr (.inr (.inr (.inr (fun j => some (a (9 + j)))))))), (a 4, ob 0 [.ref (a 5), .ref (a 6), .ref (a 7), .ref (a 8), iv (y 0 0), iv (y 0 1), iv (y 0 2), iv (y 0 3), iv (y 0 4), iv (y 0 5), iv (y 0 6), iv (y 0 7)]), (a 5, ar cI 5 (y 1)), (a 6, ar cI 5 (y 2)), (a 7, ar cI 3050 (y 3)), (a 8, ar cI 6 (y 4)), (a 9, ob 2 [.ref (a 12), .ref (a 15), iv (x 4 0), iv (x 5 0), iv (x 6 0)]), (a 12, ar cI 5 (fun z : Int => x 2 (5 * 0 + z))), (a 15, ar cI 3 (fun z : Int => x 3 (3 * 0 + z))), (a 10, ob 2 [.ref (a 13), .ref (a 16), iv (x 4 1), iv (x 5 1), iv (x 6 1)]), (a 13, ar cI 5 (fun z : Int => x 2 (5 * 1 + z))), (a 16, ar cI 3 (fun z : Int => x 3 (3 * 1 + z))), (a 11, ob 2 [.ref (a 14), .ref (a 17), iv (x 4 2), iv (x 5 2), iv (x 6 2)]), (a 14, ar cI 5 (fun z : Int => x 2 (5 * 2 + z))), (a 17, ar cI 3 (fun z : Int => x 3 (3 * 2 + z)))] (fun r_ => (((0 ≤ (2 : Int) ∧ (2 : Int) < 3) ∧ 0 ≤ j ∧ j < 5)) ∧ r_ = some (iv (slv (x 2 (5 * 2 + j)) (fun z : Int => x 3 (3 * 2 + z))))) (fun E_ => (E_ = xIA ∧ ¬ ((0 ≤ (2 : Int) ∧ (2 : Int) < 3) ∧ 0 ≤ j ∧ j < 5))) 6 36 := by
  refine en_T (cc := cX3_wouldSell) (maxL := 4) (ret := (some .int)) (by decide) rfl (Nat.le_of_ble_eq_true rfl) ?_
  intro p e s m args below meth c ls hX hE hP hK hZ hnt hl Q hQ
  obtain ⟨hx, hb, hr, hml, hts, hown, hlocks, hnm⟩ := hX
  have hown : s.vm.findClass RX3 = some m.cls := hown
  have hl : lv_has ls 4 [(0, .ref (a 0)), (1, iv 2), (2, iv j)] := hl
  have w0 : (Cond.initialized RX2).before args s = true := hts _ (by decide +kernel)
  have w1 : (Cond.instanceMethod yX2_salesAt).before args s = true := hts _ (by decide +kernel)
  have w2 : (Cond.selects RX2 yX2_salesAt yX2_salesAt).before args s = true := hts _ (by decide +kernel)
  obtain ⟨hx00, hx01, hx02, hx03, hx04, hx1, hx2, hx3, hx4, hx5⟩ := id hI
  obtain ⟨hs2n, hs2w⟩ := ix_sk hI (i := 2) (by decide)
  have hs2t := ix_st hI (i := 2) (by decide)
  have hs2l := ix_la hI (i := 2) (by decide)
  refine lv_aload_n hx hb dX3_wouldSell_0 rfl (lv_at hl 0 rfl) ?_
  refine lv_iload_n hx hb dX3_wouldSell_1 rfl (lv_at hl 1 rfl) ?_
  refine ms_T (vx_runV (As := [iv 2]) (rest := []) ⟨hx, hb, hml, hown, hts⟩ (mt_X3_storeOf_2 l hst D cI cS cJ a (a 0) (a 1) (a 3) (a 4)) (cwV 1 hts gX3_wouldSell_X3_storeOf rfl rfl rfl (by decide +kernel) ⟨Nat.le_of_ble_eq_true rfl, Nat.le_of_ble_eq_true rfl⟩) (pc_V (ci := 3) (q0 := 0) hK (hP.sub (ws' := [(a 0, ob 3 [.ref (a 1), .ref (a 3), .ref (a 4)]), (a 3, .inl (cS, 3, .inr (.inr (.inr (.inr (fun j => some (a (9 + j))))))))]) [0, 3] rfl) rfl rfl (pcT_S hE hK (hP.sub (ws' := [(a 0, ob 3 [.ref (a 1), .ref (a 3), .ref (a 4)]), (a 3, .inl (cS, 3, .inr (.inr (.inr (.inr (fun j => some (a (9 + j))))))))]) [0, 3] rfl) hZ)) rfl rfl hl.1 rfl (lv_room (Nat.le_of_ble_eq_true rfl)) dX3_wouldSell_2 ⟨Nat.le_of_ble_eq_true rfl, Nat.le_of_ble_eq_true rfl⟩) (fun E9 ce9 q9 H1 hTX hz9 hk9 hce hcv hcl => ?_) (fun r_ hq_ => ?_)
  · skip
    subst hQ
    exact r_out hnt hlocks (by first | exact hTX | exact ⟨hTX, by omega⟩ | exact Or.inl ⟨hTX, by omega⟩ | (obtain ⟨e9, h9⟩ := hTX; exact ⟨e9, by omega⟩) | (rcases hTX with ⟨e9, h9⟩ | ⟨e9, h9⟩ <;> first | exact Or.inl ⟨e9, by omega⟩ | exact Or.inr ⟨e9, by omega⟩) | (obtain ⟨e9, h9⟩ := hTX; first | exact Or.inl ⟨e9, by omega⟩ | exact Or.inr ⟨e9, by omega⟩)) hz9 hk9 hce hcv hcl (fun _ h => by cases h) (Nat.le_of_ble_eq_true rfl) (Nat.le_of_ble_eq_true rfl)
  subst hq_
  refine lv_astore_n (lv' := [(3, .ref (a 11)), (0, .ref (a 0)), (1, iv 2), (2, iv j)]) hx hb dX3_wouldSell_5 rfl hl (by decide) rfl (fun ls hl => ?_)
  refine lv_iload_n hx hb dX3_wouldSell_6 rfl (lv_at hl 3 rfl) ?_
  refine ms_T (vx_runS (As := [iv j]) (rest := []) ⟨hx, hb, hml, hown, hts⟩ (mt_X3_requireStep l hst D cI cS cJ j (by omega)) (va_cwS 1 hts gX3_wouldSell_X3_requireStep rfl rfl rfl (by decide +kernel) ⟨Nat.le_of_ble_eq_true rfl, Nat.le_of_ble_eq_true rfl⟩) (pcT_S hE hK (hP.sub (ws' := []) [] rfl) hZ) rfl rfl hl.1 rfl (lv_room (Nat.le_of_ble_eq_true rfl)) dX3_wouldSell_7 ⟨Nat.le_of_ble_eq_true rfl, Nat.le_of_ble_eq_true rfl⟩) (fun E9 ce9 q9 H1 hTX hz9 hk9 hce hcv hcl => ?_) (fun r_ hq_ => ?_)
  · skip
    subst hQ
    exact r_out hnt hlocks (by first | exact hTX | exact ⟨hTX, by omega⟩ | exact Or.inl ⟨hTX, by omega⟩ | (obtain ⟨e9, h9⟩ := hTX; exact ⟨e9, by omega⟩) | (rcases hTX with ⟨e9, h9⟩ | ⟨e9, h9⟩ <;> first | exact Or.inl ⟨e9, by omega⟩ | exact Or.inr ⟨e9, by omega⟩) | (obtain ⟨e9, h9⟩ := hTX; first | exact Or.inl ⟨e9, by omega⟩ | exact Or.inr ⟨e9, by omega⟩)) hz9 hk9 hce hcv hcl (fun _ h => by cases h) (Nat.le_of_ble_eq_true rfl) (Nat.le_of_ble_eq_true rfl)
  obtain ⟨hf_1, rfl⟩ := hq_
  refine lv_aload_n hx hb dX3_wouldSell_10 rfl (lv_at hl 0 rfl) ?_
  refine lv_iload_n hx hb dX3_wouldSell_11 rfl (lv_at hl 3 rfl) ?_
  refine ms_P (va_runVN (As := [iv j]) (rest := []) ⟨hx, hb, hml, hown, hts⟩ (mt_X2_salesAt l D cI cS cJ (a 11) (a 14) (a 17) (fun z : Int => x 2 (5 * 2 + z)) (fun z : Int => x 3 (3 * 2 + z)) (x 4 2) (x 5 2) (x 6 2) j (hs2n) (hs2w) (by omega) (hx2 2 j (by decide) (by decide) (by omega) (by omega))) ⟨va_cnB 1 hts gX3_wouldSell_X2_salesAt_n122 rfl rfl rfl (hE.nw 28 rfl) w0 (by decide +kernel) ⟨Nat.le_of_ble_eq_true rfl, Nat.le_of_ble_eq_true rfl⟩, w1, w2⟩ (pc_V (ci := 2) (q0 := 0) hK (hP.sub (ws' := [(a 11, ob 2 [.ref (a 14), .ref (a 17), iv (x 4 2), iv (x 5 2), iv (x 6 2)]), (a 14, ar cI 5 (fun z : Int => x 2 (5 * 2 + z))), (a 17, ar cI 3 (fun z : Int => x 3 (3 * 2 + z)))]) [15, 16, 17] rfl) rfl rfl (pcP_S hE hK (hP.sub (ws' := [(a 11, ob 2 [.ref (a 14), .ref (a 17), iv (x 4 2), iv (x 5 2), iv (x 6 2)]), (a 14, ar cI 5 (fun z : Int => x 2 (5 * 2 + z))), (a 17, ar cI 3 (fun z : Int => x 3 (3 * 2 + z)))]) [15, 16, 17] rfl))) rfl rfl hl.1 rfl (lv_room (Nat.le_of_ble_eq_true rfl)) dX3_wouldSell_12 ⟨Nat.le_of_ble_eq_true rfl, Nat.le_of_ble_eq_true rfl⟩) ?_
  subst hQ
  exact r_Ti hx hb hr hlocks (by first | rfl | decide) dX3_wouldSell_15 (⟨(by first | assumption | omega), rfl⟩) (Nat.le_of_ble_eq_true rfl) (Nat.le_of_ble_eq_true rfl)

abbrev rm_X3_wouldSell_out : Room := { frames := 9, cells := 6, slots := 36, locals := 330 }
set_option maxHeartbeats 4000000 in
set_option maxRecDepth 100000 in
theorem mt_X3_wouldSell_out (l : Launch) (hst : l.stackTraces = false) (D : va_G) (cI cS cJ : ClassId) (a : Nat → Nat) (x : Nat → Int → Int) (y : Nat → Int → Int) (i : Int) (j : Int) (hI : IX x) (bi : -2147483648 ≤ i ∧ i < 2147483648) (bj : -2147483648 ≤ j ∧ j < 2147483648) (hno : ¬ (0 ≤ i ∧ i < 3)) : cT l yX3_wouldSell wsX3_wouldSell rm_X3_wouldSell_out [.ref (a 0), iv i, iv j] D (tyL cI cS cJ) [(a 0, ob 3 [.ref (a 1), .ref (a 3), .ref (a 4)]), (a 1, ob 1 [.ref (a 2), iv (x 0 0), iv (x 0 1), iv (x 0 2), iv (x 0 3), iv (x 0 4), iv (x 0 5)]), (a 2, ar cI 5 (x 1)), (a 3, .inl (cS, 3, .inr (.inr (.inr (.inr (fun j => some (a (9 + j)))))))), (a 4, ob 0 [.ref (a 5), .ref (a 6), .ref (a 7), .ref (a 8), iv (y 0 0), iv (y 0 1), iv (y 0 2), iv (y 0 3), iv (y 0 4), iv (y 0 5), iv (y 0 6), iv (y 0 7)]), (a 5, ar cI 5 (y 1)), (a 6, ar cI 5 (y 2)), (a 7, ar cI 3050 (y 3)), (a 8, ar cI 6 (y 4)), (a 9, ob 2 [.ref (a 12), .ref (a 15), iv (x 4 0), iv (x 5 0), iv (x 6 0)]), (a 12, ar cI 5 (fun z : Int => x 2 (5 * 0 + z))), (a 15, ar cI 3 (fun z : Int => x 3 (3 * 0 + z))), (a 10, ob 2 [.ref (a 13), .ref (a 16), iv (x 4 1), iv (x 5 1), iv (x 6 1)]), (a 13, ar cI 5 (fun z : Int => x 2 (5 * 1 + z))), (a 16, ar cI 3 (fun z : Int => x 3 (3 * 1 + z))), (a 11, ob 2 [.ref (a 14), .ref (a 17), iv (x 4 2), iv (x 5 2), iv (x 6 2)]), (a 14, ar cI 5 (fun z : Int => x 2 (5 * 2 + z))), (a 17, ar cI 3 (fun z : Int => x 3 (3 * 2 + z)))] (fun r_ => (((0 ≤ i ∧ i < 3) ∧ 0 ≤ j ∧ j < 5)) ∧ r_ = some (iv (slv (x 2 (5 * i + j)) (fun z : Int => x 3 (3 * i + z))))) (fun E_ => (E_ = xIA ∧ ¬ ((0 ≤ i ∧ i < 3) ∧ 0 ≤ j ∧ j < 5))) 6 36 := by
  refine en_T (cc := cX3_wouldSell) (maxL := 4) (ret := (some .int)) (by decide) rfl (Nat.le_of_ble_eq_true rfl) ?_
  intro p e s m args below meth c ls hX hE hP hK hZ hnt hl Q hQ
  obtain ⟨hx, hb, hr, hml, hts, hown, hlocks, hnm⟩ := hX
  have hown : s.vm.findClass RX3 = some m.cls := hown
  have hl : lv_has ls 4 [(0, .ref (a 0)), (1, iv i), (2, iv j)] := hl
  obtain ⟨hx00, hx01, hx02, hx03, hx04, hx1, hx2, hx3, hx4, hx5⟩ := id hI
  refine lv_aload_n hx hb dX3_wouldSell_0 rfl (lv_at hl 0 rfl) ?_
  refine lv_iload_n hx hb dX3_wouldSell_1 rfl (lv_at hl 1 rfl) ?_
  refine ms_T (vx_runV (As := [iv i]) (rest := []) ⟨hx, hb, hml, hown, hts⟩ (mt_X3_storeOf_out l hst D cI cS cJ a (a 0) (a 1) (a 3) (a 4) i (by omega) (by omega)) (cwV 1 hts gX3_wouldSell_X3_storeOf rfl rfl rfl (by decide +kernel) ⟨Nat.le_of_ble_eq_true rfl, Nat.le_of_ble_eq_true rfl⟩) (pc_V (ci := 3) (q0 := 0) hK (hP.sub (ws' := [(a 0, ob 3 [.ref (a 1), .ref (a 3), .ref (a 4)]), (a 3, .inl (cS, 3, .inr (.inr (.inr (.inr (fun j => some (a (9 + j))))))))]) [0, 3] rfl) rfl rfl (pcT_S hE hK (hP.sub (ws' := [(a 0, ob 3 [.ref (a 1), .ref (a 3), .ref (a 4)]), (a 3, .inl (cS, 3, .inr (.inr (.inr (.inr (fun j => some (a (9 + j))))))))]) [0, 3] rfl) hZ)) rfl rfl hl.1 rfl (lv_room (Nat.le_of_ble_eq_true rfl)) dX3_wouldSell_2 ⟨Nat.le_of_ble_eq_true rfl, Nat.le_of_ble_eq_true rfl⟩) (fun E9 ce9 q9 H1 hTX hz9 hk9 hce hcv hcl => ?_) (fun r_ hq_ => ?_)
  · skip
    subst hQ
    exact r_out hnt hlocks (by first | exact hTX | exact ⟨hTX, by omega⟩ | exact Or.inl ⟨hTX, by omega⟩ | (obtain ⟨e9, h9⟩ := hTX; exact ⟨e9, by omega⟩) | (rcases hTX with ⟨e9, h9⟩ | ⟨e9, h9⟩ <;> first | exact Or.inl ⟨e9, by omega⟩ | exact Or.inr ⟨e9, by omega⟩) | (obtain ⟨e9, h9⟩ := hTX; first | exact Or.inl ⟨e9, by omega⟩ | exact Or.inr ⟨e9, by omega⟩)) hz9 hk9 hce hcv hcl (fun _ h => by cases h) (Nat.le_of_ble_eq_true rfl) (Nat.le_of_ble_eq_true rfl)
  obtain ⟨hf_1, rfl⟩ := hq_
  exact hf_1.elim

abbrev rm_X3_wouldSell : Room := { frames := 9, cells := 6, slots := 36, locals := 330 }
set_option maxHeartbeats 4000000 in
set_option maxRecDepth 100000 in
theorem mt_X3_wouldSell (l : Launch) (hst : l.stackTraces = false) (D : va_G) (cI cS cJ : ClassId) (a : Nat → Nat) (x : Nat → Int → Int) (y : Nat → Int → Int) (i : Int) (j : Int) (hI : IX x) (bi : -2147483648 ≤ i ∧ i < 2147483648) (bj : -2147483648 ≤ j ∧ j < 2147483648) : cT l yX3_wouldSell wsX3_wouldSell rm_X3_wouldSell [.ref (a 0), iv i, iv j] D (tyL cI cS cJ) [(a 0, ob 3 [.ref (a 1), .ref (a 3), .ref (a 4)]), (a 1, ob 1 [.ref (a 2), iv (x 0 0), iv (x 0 1), iv (x 0 2), iv (x 0 3), iv (x 0 4), iv (x 0 5)]), (a 2, ar cI 5 (x 1)), (a 3, .inl (cS, 3, .inr (.inr (.inr (.inr (fun j => some (a (9 + j)))))))), (a 4, ob 0 [.ref (a 5), .ref (a 6), .ref (a 7), .ref (a 8), iv (y 0 0), iv (y 0 1), iv (y 0 2), iv (y 0 3), iv (y 0 4), iv (y 0 5), iv (y 0 6), iv (y 0 7)]), (a 5, ar cI 5 (y 1)), (a 6, ar cI 5 (y 2)), (a 7, ar cI 3050 (y 3)), (a 8, ar cI 6 (y 4)), (a 9, ob 2 [.ref (a 12), .ref (a 15), iv (x 4 0), iv (x 5 0), iv (x 6 0)]), (a 12, ar cI 5 (fun z : Int => x 2 (5 * 0 + z))), (a 15, ar cI 3 (fun z : Int => x 3 (3 * 0 + z))), (a 10, ob 2 [.ref (a 13), .ref (a 16), iv (x 4 1), iv (x 5 1), iv (x 6 1)]), (a 13, ar cI 5 (fun z : Int => x 2 (5 * 1 + z))), (a 16, ar cI 3 (fun z : Int => x 3 (3 * 1 + z))), (a 11, ob 2 [.ref (a 14), .ref (a 17), iv (x 4 2), iv (x 5 2), iv (x 6 2)]), (a 14, ar cI 5 (fun z : Int => x 2 (5 * 2 + z))), (a 17, ar cI 3 (fun z : Int => x 3 (3 * 2 + z)))] (fun r_ => (((0 ≤ i ∧ i < 3) ∧ 0 ≤ j ∧ j < 5)) ∧ r_ = some (iv (slv (x 2 (5 * i + j)) (fun z : Int => x 3 (3 * i + z))))) (fun E_ => (E_ = xIA ∧ ¬ ((0 ≤ i ∧ i < 3) ∧ 0 ≤ j ∧ j < 5))) 6 36 := by
  rcases (show i = 0 ∨ i = 1 ∨ i = 2 ∨ ¬ (0 ≤ i ∧ i < 3) by omega) with rfl | rfl | rfl | hno_i
  · skip
    exact mt_X3_wouldSell_0 l hst D cI cS cJ a x y j hI bj
  · skip
    exact mt_X3_wouldSell_1 l hst D cI cS cJ a x y j hI bj
  · skip
    exact mt_X3_wouldSell_2 l hst D cI cS cJ a x y j hI bj
  · skip
    exact mt_X3_wouldSell_out l hst D cI cS cJ a x y i j hI bi bj hno_i
