/-! stores are alike: the store i of one planner is the store (i + g) % 3 of the other -/
def TN (g : Int) (x u : Nat → Int → Int) : Prop := u 0 = x 0 ∧ u 1 = x 1 ∧ (∀ i j : Int, inS i → 0 ≤ j → j < 5 → u 2 (5 * ((i + g) % 3) + j) = x 2 (5 * i + j)) ∧ (∀ i j : Int, inS i → 0 ≤ j → j < 3 → u 3 (3 * ((i + g) % 3) + j) = x 3 (3 * i + j)) ∧ (∀ i : Int, inS i → u 4 ((i + g) % 3) = x 4 i) ∧ (∀ i : Int, inS i → u 5 ((i + g) % 3) = x 5 i) ∧ ∀ i : Int, inS i → u 6 ((i + g) % 3) = x 6 i
theorem tn_new {g : Int} : TN g x_new x_new := ⟨rfl, rfl, fun _ _ _ _ _ => rfl, fun _ _ _ _ _ => rfl, fun _ _ => rfl, fun _ _ => rfl, fun _ _ => rfl⟩
section TNL
variable {g : Int} {x u : Nat → Int → Int}
theorem tn_in {i g : Int} : inS ((i + g) % 3) := ⟨by omega, by omega⟩
theorem tn_sk (h : TN g x u) {i : Int} (hi : inS i) : ∀ z : Int, 0 ≤ z → z < 3 → skx u ((i + g) % 3) z = skx x i z := fun z a b => h.2.2.2.1 i z hi a b
theorem tn_dm (h : TN g x u) {i : Int} (hi : inS i) : ∀ z : Int, 0 ≤ z → z < 5 → dmx u ((i + g) % 3) z = dmx x i z := fun z a b => h.2.2.1 i z hi a b
theorem tn_wt (h : TN g x u) {i : Int} (hi : inS i) : wtx u ((i + g) % 3) = wtx x i := by
  obtain ⟨e0, e1, e2, e3, e4, e5, e6⟩ := h
  show wtv (u 5 ((i + g) % 3)) (u 0 2) (u 0 1) = wtv (x 5 i) (x 0 2) (x 0 1)
  rw [e5 i hi, e0]
theorem tn_wh (h : TN g x u) {i : Int} (hi : inS i) : whl (skx u ((i + g) % 3)) = whl (skx x i) := whl_congr (tn_sk h hi)
theorem tn_sl (h : TN g x u) (hI : IX x) {i : Int} (hi : inS i) : slx u ((i + g) % 3) = slx x i := by
  have hs := ix_st hI hi
  have hk := tn_sk h hi
  obtain ⟨e0, e1, e2, e3, e4, e5, e6⟩ := h
  show slv (u 2 (5 * ((i + g) % 3) + u 4 ((i + g) % 3))) (skx u ((i + g) % 3)) = slv (x 2 (5 * i + x 4 i)) (skx x i)
  rw [e4 i hi, e2 i _ hi hs.1 hs.2]
  exact slv_congr hk
theorem tn_tk (h : TN g x u) (hI : IX x) {i : Int} (hi : inS i) : tkx u ((i + g) % 3) = tkx x i := by
  have hs := tn_sl h hI hi
  obtain ⟨e0, e1, e2, e3, e4, e5, e6⟩ := h
  show slx u ((i + g) % 3) * u 1 (u 4 ((i + g) % 3)) = slx x i * x 1 (x 4 i)
  rw [hs, e4 i hi, e1]
theorem tn_sum (h : TN g x u) (hI : IX x) (hg : g = 1 ∨ g = 2) : tkx u 0 + tkx u 1 + tkx u 2 = tkx x 0 + tkx x 1 + tkx x 2 := by
  have a0 := tn_tk h hI (i := 0) ⟨by decide, by decide⟩
  have a1 := tn_tk h hI (i := 1) ⟨by decide, by decide⟩
  have a2 := tn_tk h hI (i := 2) ⟨by decide, by decide⟩
  rcases hg with rfl | rfl
  · rw [show ((0 : Int) + 1) % 3 = 1 by decide] at a0
    rw [show ((1 : Int) + 1) % 3 = 2 by decide] at a1
    rw [show ((2 : Int) + 1) % 3 = 0 by decide] at a2
    rw [a0, a1, a2]
    omega
  · rw [show ((0 : Int) + 2) % 3 = 2 by decide] at a0
    rw [show ((1 : Int) + 2) % 3 = 0 by decide] at a1
    rw [show ((2 : Int) + 2) % 3 = 1 by decide] at a2
    rw [a0, a1, a2]
    omega
/-! plans speak of a store's demands at the five steps alone -/
theorem pv_dcongr {pr d d2 : Int → Int} {g r ml : Int} (h : ∀ j : Int, 0 ≤ j → j < 5 → d2 j = d j) : ∀ (n : Nat) (b w l : Int), 0 ≤ b → pv pr d2 g r ml n b w l = pv pr d g r ml n b w l := by
  intro n
  induction n with
  | zero => intro b w l _; rfl
  | succ n ih =>
    intro b w l hb
    show mxf (cand (pv pr d2 g r ml n) pr d2 g b w l) b (5 - b).toNat = mxf (cand (pv pr d g r ml n) pr d g b w l) b (5 - b).toNat
    refine mxf_congr _ (fun j hj => ?_)
    unfold cand
    rw [h (b + j) (by omega) (by omega), ih (b + j) _ _ (by omega)]
theorem pst_dcongr {pr d d2 : Int → Int} {g r ml : Int} (h : ∀ j : Int, 0 ≤ j → j < 5 → d2 j = d j) (hd : ∀ j : Int, 0 ≤ j → j < 5 → 0 ≤ d j) (hpr : ∀ j : Int, 0 ≤ j → j < 5 → 0 ≤ pr j) (hr : 0 ≤ r) (hg : 1 ≤ g) (n0 : Nat) {b w l : Int} (hb : 0 ≤ b) (hb5 : b < 5) (hl : 0 ≤ l) (hlm : l ≤ ml) (hw : 0 ≤ w) : ∀ k : Nat, k ≤ n0 → pst pr d2 g r ml n0 b w l k = pst pr d g r ml n0 b w l k := by
  intro k
  induction k with
  | zero => intro _; rfl
  | succ k ih =>
    intro hk
    have hk0 := (pst_min (pr := pr) (d := d) (g := g) (r := r) (ml := ml) hd hpr hr hg n0 hb hb5 hl hlm hw hw rfl k (by omega)).2.1
    have hk1 := (pst_min (pr := pr) (d := d) (g := g) (r := r) (ml := ml) hd hpr hr hg n0 hb hb5 hl hlm hw hw rfl (k + 1) hk).2.1
    unfold pst at hk1 ⊢
    rw [ih (by omega)]
    generalize pst pr d g r ml n0 b w l k = q at hk0 hk1 ⊢
    simp only [] at hk1 ⊢
    have ev : pv pr d2 g r ml (n0 - k) q.1 q.2.1 q.2.2 = pv pr d g r ml (n0 - k) q.1 q.2.1 q.2.2 := pv_dcongr h _ _ _ _ hk0.1
    have ef : fnd (cand (pv pr d2 g r ml (n0 - k - 1)) pr d2 g q.1 q.2.1 q.2.2) (pv pr d2 g r ml (n0 - k) q.1 q.2.1 q.2.2) q.1 (5 - q.1).toNat = fnd (cand (pv pr d g r ml (n0 - k - 1)) pr d g q.1 q.2.1 q.2.2) (pv pr d g r ml (n0 - k) q.1 q.2.1 q.2.2) q.1 (5 - q.1).toNat := by
      rw [ev]
      refine fnd_congr _ (fun j q1 q2 => ?_)
      unfold cand
      rw [h j (by omega) (by omega), pv_dcongr h _ j _ _ (by omega)]
    rw [ef]
    generalize fnd (cand (pv pr d g r ml (n0 - k - 1)) pr d g q.1 q.2.1 q.2.2) (pv pr d g r ml (n0 - k) q.1 q.2.1 q.2.2) q.1 (5 - q.1).toNat = ix at hk1 ⊢
    rw [h ix hk1.1 hk1.2]
theorem tn_best (h : TN g x u) (hI : IX x) {i ml : Int} (hi : inS i) : vx_best u ((i + g) % 3) ml = vx_best x i ml := by
  have hw := tn_wt h hi
  have hk := tn_wh h hi
  have hs := ix_st hI hi
  have hd := tn_dm h hi
  obtain ⟨e0, e1, e2, e3, e4, e5, e6⟩ := h
  show pv (u 1) (dmx u ((i + g) % 3)) (u 0 2) (u 0 3) ml (u 0 0 - u 0 1).toNat (u 4 ((i + g) % 3)) (wtx u ((i + g) % 3)) (whl (skx u ((i + g) % 3))) = _
  rw [hw, hk, e4 i hi, e1, e0]
  exact pv_dcongr hd _ _ _ _ hs.1
theorem tn_plan (h : TN g x u) (hI : IX x) {i wk : Int} (hi : inS i) (h0 : x 0 1 ≤ wk) (h1 : wk < x 0 0) : vx_plan u ((i + g) % 3) wk = vx_plan x i wk := by
  have hw := tn_wt h hi
  have hk := tn_wh h hi
  have hs := ix_st hI hi
  have hd := tn_dm h hi
  have hw2 := wtx_in hI hi
  have hl := ix_wh hI hi
  obtain ⟨e0, e1, e2, e3, e4, e5, e6⟩ := h
  obtain ⟨h00, h01, h02, h03, h04, g1, g2, g3, g4, g5⟩ := id hI
  show (pst (u 1) (dmx u ((i + g) % 3)) (u 0 2) (u 0 3) 60 (u 0 0 - u 0 1).toNat (u 4 ((i + g) % 3)) (wtx u ((i + g) % 3)) (whl (skx u ((i + g) % 3))) (wk - u 0 1 + 1).toNat).1 = _
  rw [hw, hk, e4 i hi, e1, e0]
  exact congrArg Prod.fst (pst_dcongr (pr := x 1) (d := dmx x i) (d2 := dmx u ((i + g) % 3)) (g := x 0 2) (r := x 0 3) (ml := 60) hd (fun j a b => (g2 i j hi.1 hi.2 a b).1) (fun j a b => (g1 j a b).1) h03.1 h02.1 (x 0 0 - x 0 1).toNat hs.1 hs.2 hl.1 hl.2 hw2.1 (wk - x 0 1 + 1).toNat (by omega))
/-! a call on the one, the same on the other -/
theorem tn_begin (h : TN g x u) {w : Int} : TN g (x_begin x w) (x_begin u w) := by
  obtain ⟨e0, e1, e2, e3, e4, e5, e6⟩ := h
  refine ⟨?_, e1, e2, e3, fun _ _ => rfl, fun _ _ => rfl, fun _ _ => rfl⟩
  show ui (ui (ui (u 0) 0 w) 1 0) 5 0 = ui (ui (ui (x 0) 0 w) 1 0) 5 0
  rw [e0]
theorem tn_row0 (h : TN g x u) {c v : Int} : TN g (up x 0 c v) (up u 0 c v) := by
  obtain ⟨e0, e1, e2, e3, e4, e5, e6⟩ := h
  refine ⟨?_, e1, e2, e3, e4, e5, e6⟩
  show ui (u 0) c v = ui (x 0) c v
  rw [e0]
theorem tn_row1 (h : TN g x u) {c v : Int} : TN g (up x 1 c v) (up u 1 c v) := by
  obtain ⟨e0, e1, e2, e3, e4, e5, e6⟩ := h
  refine ⟨e0, ?_, e2, e3, e4, e5, e6⟩
  show ui (u 1) c v = ui (x 1) c v
  rw [e1]
theorem tn_row2 (h : TN g x u) {i j v : Int} (hi : inS i) (hj : 0 ≤ j ∧ j < 5) : TN g (up x 2 (5 * i + j) v) (up u 2 (5 * ((i + g) % 3) + j) v) := by
  obtain ⟨e0, e1, e2, e3, e4, e5, e6⟩ := h
  refine ⟨e0, e1, fun k z hk z0 z1 => ?_, e3, e4, e5, e6⟩
  obtain ⟨i0, i1⟩ := hi
  obtain ⟨k0, k1⟩ := hk
  by_cases q : k = i ∧ z = j
  · rw [q.1, q.2, up_s, up_s]
  · rw [up_n (fun q2 => q ⟨by omega, by omega⟩), up_n (fun q2 => q ⟨by omega, by omega⟩)]
    exact e2 k z ⟨k0, k1⟩ z0 z1
theorem tn_row3 (h : TN g x u) {i j v : Int} (hi : inS i) (hj : 0 ≤ j ∧ j < 3) : TN g (up x 3 (3 * i + j) v) (up u 3 (3 * ((i + g) % 3) + j) v) := by
  obtain ⟨e0, e1, e2, e3, e4, e5, e6⟩ := h
  refine ⟨e0, e1, e2, fun k z hk z0 z1 => ?_, e4, e5, e6⟩
  obtain ⟨i0, i1⟩ := hi
  obtain ⟨k0, k1⟩ := hk
  by_cases q : k = i ∧ z = j
  · rw [q.1, q.2, up_s, up_s]
  · rw [up_n (fun q2 => q ⟨by omega, by omega⟩), up_n (fun q2 => q ⟨by omega, by omega⟩)]
    exact e3 k z ⟨k0, k1⟩ z0 z1
theorem tn_row4 (h : TN g x u) {i v : Int} (hi : inS i) : TN g (up x 4 i v) (up u 4 ((i + g) % 3) v) := by
  obtain ⟨e0, e1, e2, e3, e4, e5, e6⟩ := h
  refine ⟨e0, e1, e2, e3, fun k hk => ?_, e5, e6⟩
  obtain ⟨i0, i1⟩ := hi
  obtain ⟨k0, k1⟩ := hk
  by_cases q : k = i
  · rw [q, up_s, up_s]
  · rw [up_n (fun q2 => q (by omega)), up_n q]
    exact e4 k ⟨k0, k1⟩
theorem tn_row5 (h : TN g x u) {i v : Int} (hi : inS i) : TN g (up x 5 i v) (up u 5 ((i + g) % 3) v) := by
  obtain ⟨e0, e1, e2, e3, e4, e5, e6⟩ := h
  refine ⟨e0, e1, e2, e3, e4, fun k hk => ?_, e6⟩
  obtain ⟨i0, i1⟩ := hi
  obtain ⟨k0, k1⟩ := hk
  by_cases q : k = i
  · rw [q, up_s, up_s]
  · rw [up_n (fun q2 => q (by omega)), up_n q]
    exact e5 k ⟨k0, k1⟩
theorem tn_rules (h : TN g x u) {a b c : Int} : TN g (x_rules x a b c) (x_rules u a b c) := tn_row0 (tn_row0 (tn_row0 h))
theorem tn_put (h : TN g x u) {i j n : Int} (hi : inS i) (hj : 0 ≤ j ∧ j < 3) : TN g (x_put x i j n) (x_put u ((i + g) % 3) j n) := by
  show TN g (up x 3 (3 * i + j) (x 3 (3 * i + j) + n)) (up u 3 (3 * ((i + g) % 3) + j) (u 3 (3 * ((i + g) % 3) + j) + n))
  rw [h.2.2.2.1 i j hi hj.1 hj.2]
  exact tn_row3 h hi hj
theorem tn_move (h : TN g x u) {i j z n : Int} (hi : inS i) (hj : inS j) (hz : 0 ≤ z ∧ z < 3) : TN g (x_move x i j z n) (x_move u ((i + g) % 3) ((j + g) % 3) z n) := by
  show TN g (up (up (up x 3 (3 * i + z) (x 3 (3 * i + z) - n)) 3 (3 * j + z) (x 3 (3 * j + z) + n)) 0 5 (x 0 5 - n * x 0 4)) (up (up (up u 3 (3 * ((i + g) % 3) + z) (u 3 (3 * ((i + g) % 3) + z) - n)) 3 (3 * ((j + g) % 3) + z) (u 3 (3 * ((j + g) % 3) + z) + n)) 0 5 (u 0 5 - n * u 0 4))
  rw [h.2.2.2.1 i z hi hz.1 hz.2, h.2.2.2.1 j z hj hz.1 hz.2, h.1]
  exact tn_row0 (tn_row3 (tn_row3 h hi hz) hj hz)
theorem tn_mark (h : TN g x u) {i j : Int} (hi : inS i) : TN g (x_mark x i j) (x_mark u ((i + g) % 3) j) := by
  show TN g (up (up x 4 i j) 5 i (x 0 1)) (up (up u 4 ((i + g) % 3) j) 5 ((i + g) % 3) (u 0 1))
  rw [h.1]
  exact tn_row5 (tn_row4 h hi) hi
theorem fst_congr {k k2 : Int → Int} (h : ∀ z : Int, 0 ≤ z → z < 3 → k z = k2 z) : fst k = fst k2 := by
  have h1 := fu1_in k2
  have e : fu1 k = fu1 k2 := by
    unfold fu1
    rw [h 0 (by decide) (by decide), h 1 (by decide) (by decide)]
  unfold fst
  rw [e, h (fu1 k2) (by omega) (by omega), h 2 (by decide) (by decide)]
theorem decn_congr {k k2 : Int → Int} (h : ∀ z : Int, 0 ≤ z → z < 3 → k z = k2 z) : ∀ (n : Nat) (z : Int), 0 ≤ z → z < 3 → decn k n z = decn k2 n z := by
  intro n
  induction n with
  | zero => exact h
  | succ n ih =>
    intro z z0 z1
    have hf := fst_in (decn k2 n)
    show ui (decn k n) (fst (decn k n)) (decn k n (fst (decn k n)) - 1) z = ui (decn k2 n) (fst (decn k2 n)) (decn k2 n (fst (decn k2 n)) - 1) z
    rw [fst_congr ih, ih (fst (decn k2 n)) (by omega) (by omega)]
    show (if z = fst (decn k2 n) then _ else decn k n z) = (if z = fst (decn k2 n) then _ else decn k2 n z)
    rw [ih z z0 z1]
theorem tn_run (h : TN g x u) (hI : IX x) (hg : g = 1 ∨ g = 2) : TN g (x_run x) (x_run u) := by
  have hs := tn_sum h hI hg
  refine ⟨?_, h.2.1, h.2.2.1, fun i j hi j0 j1 => ?_, h.2.2.2.2.1, h.2.2.2.2.2.1, fun i hi => ?_⟩
  · show ui (ui (u 0) 5 (u 0 5 + (tkx u 0 + tkx u 1 + tkx u 2))) 1 (u 0 1 + 1) = ui (ui (x 0) 5 (x 0 5 + (tkx x 0 + tkx x 1 + tkx x 2))) 1 (x 0 1 + 1)
    rw [hs, h.1]
  · show decn (skx u ((3 * ((i + g) % 3) + j) / 3)) (slx u ((3 * ((i + g) % 3) + j) / 3)).toNat ((3 * ((i + g) % 3) + j) % 3) = decn (skx x ((3 * i + j) / 3)) (slx x ((3 * i + j) / 3)).toNat ((3 * i + j) % 3)
    rw [show (3 * ((i + g) % 3) + j) / 3 = (i + g) % 3 by omega, show (3 * ((i + g) % 3) + j) % 3 = j by omega, show (3 * i + j) / 3 = i by omega, show (3 * i + j) % 3 = j by omega, tn_sl h hI hi]
    exact decn_congr (tn_sk h hi) _ j j0 j1
  · show u 6 ((i + g) % 3) + slx u ((i + g) % 3) = x 6 i + slx x i
    rw [h.2.2.2.2.2.2 i hi, tn_sl h hI hi]
end TNL
