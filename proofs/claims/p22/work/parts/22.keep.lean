theorem nn3_congr {k k2 : Int → Int} (h : ∀ z : Int, 0 ≤ z → z < 3 → k z = k2 z) (hk : Nn3 k2) : Nn3 k := by
  obtain ⟨a, b, c⟩ := hk
  exact ⟨by rw [h 0 (by decide) (by decide)]; exact a, by rw [h 1 (by decide) (by decide)]; exact b, by rw [h 2 (by decide) (by decide)]; exact c⟩
theorem whl_congr {k k2 : Int → Int} (h : ∀ z : Int, 0 ≤ z → z < 3 → k z = k2 z) : whl k = whl k2 := by
  unfold whl
  rw [h 0 (by decide) (by decide), h 1 (by decide) (by decide), h 2 (by decide) (by decide)]
theorem slv_congr {k k2 : Int → Int} {dm : Int} (h : ∀ z : Int, 0 ≤ z → z < 3 → k z = k2 z) : slv dm k = slv dm k2 := by
  unfold slv szs
  rw [whl_congr h, h 0 (by decide) (by decide), h 1 (by decide) (by decide), h 2 (by decide) (by decide)]
/-! what a call leaves keeps the state's bounds -/
theorem skx_up (x : Nat → Int → Int) {i j i2 v : Int} (hj : 0 ≤ j ∧ j < 3) {z : Int} (h0 : 0 ≤ z) (h1 : z < 3) : skx (up x 3 (3 * i + j) v) i2 z = if i2 = i ∧ z = j then v else skx x i2 z := by
  show up x 3 (3 * i + j) v 3 (3 * i2 + z) = _
  by_cases h : i2 = i ∧ z = j
  · rw [if_pos h, h.1, h.2, up_s]
  · rw [if_neg h, up_n (fun q => h ⟨by omega, by omega⟩)]
theorem ix_up3 {x : Nat → Int → Int} {i j v : Int} (hi : inS i) (hj : 0 ≤ j ∧ j < 3) (h3 : ∀ i : Int, 0 ≤ i → i < 3 → Nn3 (skx x i) ∧ whl (skx x i) ≤ 60) (hv : 0 ≤ v) (hw : whl (skx x i) - skx x i j + v ≤ 60) : ∀ i2 : Int, 0 ≤ i2 → i2 < 3 → Nn3 (skx (up x 3 (3 * i + j) v) i2) ∧ whl (skx (up x 3 (3 * i + j) v) i2) ≤ 60 := by
  intro i2 a b
  obtain ⟨⟨g0, g1, g2⟩, g3⟩ := h3 i2 a b
  unfold Nn3
  unfold whl at g3 hw ⊢
  rw [skx_up x hj (z := 0) (by decide) (by decide), skx_up x hj (z := 1) (by decide) (by decide), skx_up x hj (z := 2) (by decide) (by decide)]
  by_cases h : i2 = i
  · subst h
    rcases (show j = 0 ∨ j = 1 ∨ j = 2 by omega) with rfl | rfl | rfl
    · rw [if_pos ⟨rfl, rfl⟩, if_neg (fun q => absurd q.2 (by decide)), if_neg (fun q => absurd q.2 (by decide))]
      exact ⟨⟨hv, g1, g2⟩, by omega⟩
    · rw [if_neg (fun q => absurd q.2 (by decide)), if_pos ⟨rfl, rfl⟩, if_neg (fun q => absurd q.2 (by decide))]
      exact ⟨⟨g0, hv, g2⟩, by omega⟩
    · rw [if_neg (fun q => absurd q.2 (by decide)), if_neg (fun q => absurd q.2 (by decide)), if_pos ⟨rfl, rfl⟩]
      exact ⟨⟨g0, g1, hv⟩, by omega⟩
  · rw [if_neg (fun q => h q.1), if_neg (fun q => h q.1), if_neg (fun q => h q.1)]
    exact ⟨⟨g0, g1, g2⟩, g3⟩
theorem ix_begin {x : Nat → Int → Int} {w : Int} (h : IX x) (ha : 1 ≤ w ∧ w ≤ 10) : IX (x_begin x w) := by
  obtain ⟨h00, h01, h02, h03, h04, h1, h2, h3, h4, h5⟩ := h
  exact ⟨ha, ⟨Int.le_refl 0, (by show (0 : Int) ≤ w; omega)⟩, h02, h03, h04, h1, h2, h3, fun i a b => ⟨by show (0 : Int) ≤ 0; omega, by show (0 : Int) < 5; omega⟩, fun i a b => ⟨by show (-1 : Int) ≤ -1; omega, by show (-1 : Int) ≤ 0; omega⟩⟩
theorem ix_setPrice {x : Nat → Int → Int} {j v : Int} (h : IX x) (hv : 0 ≤ v ∧ v ≤ 1000) : IX (up x 1 j v) := by
  obtain ⟨h00, h01, h02, h03, h04, h1, h2, h3, h4, h5⟩ := h
  refine ⟨h00, h01, h02, h03, h04, fun k a b => ?_, h2, h3, h4, h5⟩
  by_cases q : k = j
  · rw [q, up_s]; exact hv
  · rw [up_n q]; exact h1 k a b
theorem ix_setDemand {x : Nat → Int → Int} {c v : Int} (h : IX x) (hv : 0 ≤ v ∧ v ≤ 30) : IX (up x 2 c v) := by
  obtain ⟨h00, h01, h02, h03, h04, h1, h2, h3, h4, h5⟩ := h
  refine ⟨h00, h01, h02, h03, h04, h1, fun k i a b a2 b2 => ?_, h3, h4, h5⟩
  by_cases q : 5 * k + i = c
  · rw [q, up_s]; exact hv
  · rw [up_n q]; exact h2 k i a b a2 b2
theorem ix_rules {x : Nat → Int → Int} {g r v : Int} (h : IX x) (ha : (1 ≤ g ∧ g ≤ 4) ∧ (0 ≤ r ∧ r ≤ 1000) ∧ 0 ≤ v ∧ v ≤ 100) : IX (x_rules x g r v) := by
  obtain ⟨h00, h01, h02, h03, h04, h1, h2, h3, h4, h5⟩ := h
  exact ⟨h00, h01, ha.1, ha.2.1, ha.2.2, h1, h2, h3, h4, h5⟩
theorem ix_put {x : Nat → Int → Int} {i j n : Int} (h : IX x) (ha : (0 ≤ i ∧ i < 3) ∧ (0 ≤ j ∧ j < 3) ∧ 1 ≤ n ∧ n ≤ 40) (hb : whl (fun z : Int => x 3 (3 * i + z)) + n ≤ 60) : IX (x_put x i j n) := by
  obtain ⟨h00, h01, h02, h03, h04, h1, h2, h3, h4, h5⟩ := h
  have g := h3 i ha.1.1 ha.1.2
  have g9 : 0 ≤ skx x i j := by
    obtain ⟨⟨g0, g1, g2⟩, g3⟩ := g
    rcases (show j = 0 ∨ j = 1 ∨ j = 2 by omega) with rfl | rfl | rfl <;> assumption
  have g9 : 0 ≤ x 3 (3 * i + j) := g9
  exact ⟨h00, h01, h02, h03, h04, h1, h2, ix_up3 ha.1 ha.2.1 h3 (by omega) (by have hb : whl (skx x i) + n ≤ 60 := hb; show whl (skx x i) - x 3 (3 * i + j) + (x 3 (3 * i + j) + n) ≤ 60; omega), h4, h5⟩
theorem ix_mark {x : Nat → Int → Int} {i j : Int} (h : IX x) (ha : (0 ≤ i ∧ i < 3) ∧ 0 ≤ j ∧ j < 5) : IX (x_mark x i j) := by
  obtain ⟨h00, h01, h02, h03, h04, h1, h2, h3, h4, h5⟩ := h
  refine ⟨h00, h01, h02, h03, h04, h1, h2, h3, fun k a b => ?_, fun k a b => ?_⟩
  · show 0 ≤ up x 4 i j 4 k ∧ up x 4 i j 4 k < 5
    by_cases q : k = i
    · rw [q, up_s]; exact ha.2
    · rw [up_n q]; exact h4 k a b
  · show -1 ≤ up (up x 4 i j) 5 i (x 0 1) 5 k ∧ up (up x 4 i j) 5 i (x 0 1) 5 k ≤ x 0 1
    by_cases q : k = i
    · rw [q, up_s]; omega
    · rw [up_n q]; exact h5 k a b
theorem ix_move {x : Nat → Int → Int} {i j sz n : Int} (h : IX x) (ha : (0 ≤ i ∧ i < 3) ∧ (0 ≤ j ∧ j < 3) ∧ (0 ≤ sz ∧ sz < 3) ∧ (1 ≤ n ∧ n ≤ 40) ∧ i ≠ j) (hb : x 0 1 < x 0 0 ∧ n ≤ x 3 (3 * i + sz) ∧ whl (fun z : Int => x 3 (3 * j + z)) + n ≤ 60) : IX (x_move x i j sz n) := by
  obtain ⟨h00, h01, h02, h03, h04, h1, h2, h3, h4, h5⟩ := h
  have q1 := ix_up3 (x := x) (v := x 3 (3 * i + sz) - n) ha.1 ha.2.2.1 h3 (by omega) (by have g := (h3 i ha.1.1 ha.1.2).2; show whl (skx x i) - x 3 (3 * i + sz) + (x 3 (3 * i + sz) - n) ≤ 60; omega)
  have e : ∀ z : Int, 0 ≤ z → z < 3 → skx (up x 3 (3 * i + sz) (x 3 (3 * i + sz) - n)) j z = skx x j z := fun z a b => by rw [skx_up x ha.2.2.1 a b, if_neg (fun q => ha.2.2.2.2 q.1.symm)]
  have e3 := whl_congr e
  have g9 : 0 ≤ x 3 (3 * j + sz) := by
    obtain ⟨⟨g0, g1, g2⟩, g3⟩ := h3 j ha.2.1.1 ha.2.1.2
    have g8 : 0 ≤ skx x j sz := by
      rcases (show sz = 0 ∨ sz = 1 ∨ sz = 2 by omega) with rfl | rfl | rfl <;> assumption
    exact g8
  have e4 : skx (up x 3 (3 * i + sz) (x 3 (3 * i + sz) - n)) j sz = x 3 (3 * j + sz) := e sz ha.2.2.1.1 ha.2.2.1.2
  have hb3 : whl (skx x j) + n ≤ 60 := hb.2.2
  exact ⟨h00, h01, h02, h03, h04, h1, h2, ix_up3 (x := up x 3 (3 * i + sz) (x 3 (3 * i + sz) - n)) (v := x 3 (3 * j + sz) + n) ha.2.1 ha.2.2.1 q1 (by omega) (by rw [e3, e4]; omega), h4, h5⟩
theorem ix_run {x : Nat → Int → Int} (h : IX x) (ha : x 0 1 < x 0 0) : IX (x_run x) := by
  obtain ⟨h00, h01, h02, h03, h04, h1, h2, h3, h4, h5⟩ := id h
  refine ⟨h00, ?_, h02, h03, h04, h1, h2, fun i a b => ?_, h4, fun i a b => ?_⟩
  · show 0 ≤ x 0 1 + 1 ∧ x 0 1 + 1 ≤ x 0 0
    omega
  · have e : ∀ z : Int, 0 ≤ z → z < 3 → skx (x_run x) i z = decn (skx x i) (slx x i).toNat z := fun z a9 b9 => by
      show decn (skx x ((3 * i + z) / 3)) (slx x ((3 * i + z) / 3)).toNat ((3 * i + z) % 3) = _
      rw [show (3 * i + z) / 3 = i by omega, show (3 * i + z) % 3 = z by omega]
    obtain ⟨g1, g2⟩ := h3 i a b
    have g3 : 0 ≤ slx x i ∧ slx x i ≤ whl (skx x i) := slv_in (ix_dm h ⟨a, b⟩ (h4 i a b)).1 g1
    exact ⟨nn3_congr e (decn_nn g1 _ (by omega)), by rw [whl_congr e, whl_decn]; omega⟩
  · have g := h5 i a b
    show -1 ≤ x 5 i ∧ x 5 i ≤ x 0 1 + 1
    omega
/-- a new season's state -/
def x_new : Nat → Int → Int := fun q => if q = 0 then (fun c => if c = 0 then 8 else if c = 2 then 2 else 0) else if q = 1 then (fun _ => 100) else if q = 5 then (fun _ => -1) else fun _ => 0
theorem ix_new : IX x_new := ⟨by decide, by decide, by decide, by decide, by decide, fun _ _ _ => ⟨by show (0 : Int) ≤ 100; decide, by show (100 : Int) ≤ 1000; decide⟩, fun _ _ _ _ _ _ => ⟨Int.le_refl 0, by show (0 : Int) ≤ 30; decide⟩, fun _ _ _ => ⟨⟨Int.le_refl 0, Int.le_refl 0, Int.le_refl 0⟩, by show (0 : Int) + 0 + 0 ≤ 60; decide⟩, fun _ _ _ => ⟨Int.le_refl 0, by show (0 : Int) < 5; decide⟩, fun _ _ _ => ⟨Int.le_refl _, by show (-1 : Int) ≤ 0; decide⟩⟩
