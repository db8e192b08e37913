/-! the whole state: rows 0 (weeks, week, gap, remnant, moving, taken), 1 prices, 2 demands (5 i + j), 3 stock (3 i + j), 4 steps, 5 last markdowns, 6 sold -/
def up (x : Nat → Int → Int) (r : Nat) (c v : Int) : Nat → Int → Int := fun q => if q = r then ui (x r) c v else x q
abbrev dmx (x : Nat → Int → Int) (i : Int) : Int → Int := fun z : Int => x 2 (5 * i + z)
abbrev skx (x : Nat → Int → Int) (i : Int) : Int → Int := fun z : Int => x 3 (3 * i + z)
abbrev wtx (x : Nat → Int → Int) (i : Int) : Int := wtv (x 5 i) (x 0 2) (x 0 1)
def IX (x : Nat → Int → Int) : Prop := (1 ≤ x 0 0 ∧ x 0 0 ≤ 10) ∧ (0 ≤ x 0 1 ∧ x 0 1 ≤ x 0 0) ∧ (1 ≤ x 0 2 ∧ x 0 2 ≤ 4) ∧ (0 ≤ x 0 3 ∧ x 0 3 ≤ 1000) ∧ (0 ≤ x 0 4 ∧ x 0 4 ≤ 100) ∧ (∀ j : Int, 0 ≤ j → j < 5 → 0 ≤ x 1 j ∧ x 1 j ≤ 1000) ∧ (∀ i j : Int, 0 ≤ i → i < 3 → 0 ≤ j → j < 5 → 0 ≤ x 2 (5 * i + j) ∧ x 2 (5 * i + j) ≤ 30) ∧ (∀ i : Int, 0 ≤ i → i < 3 → Nn3 (skx x i) ∧ whl (skx x i) ≤ 60) ∧ (∀ i : Int, 0 ≤ i → i < 3 → 0 ≤ x 4 i ∧ x 4 i < 5) ∧ (∀ i : Int, 0 ≤ i → i < 3 → -1 ≤ x 5 i ∧ x 5 i ≤ x 0 1)
/-- the class's cells -/
abbrev CW (cI cS : ClassId) (a : Nat → Nat) (x y : Nat → Int → Int) : va_W := [(a 0, ob 3 [.ref (a 1), .ref (a 3), .ref (a 4)]), (a 1, ob 1 [.ref (a 2), iv (x 0 0), iv (x 0 1), iv (x 0 2), iv (x 0 3), iv (x 0 4), iv (x 0 5)]), (a 2, ar cI 5 (x 1)), (a 3, .inl (cS, 3, .inr (.inr (.inr (.inr (fun j => some (a (9 + j)))))))), (a 4, ob 0 [.ref (a 5), .ref (a 6), .ref (a 7), .ref (a 8), iv (y 0 0), iv (y 0 1), iv (y 0 2), iv (y 0 3), iv (y 0 4), iv (y 0 5), iv (y 0 6), iv (y 0 7)]), (a 5, ar cI 5 (y 1)), (a 6, ar cI 5 (y 2)), (a 7, ar cI 3050 (y 3)), (a 8, ar cI 6 (y 4)),
  (a 9, ob 2 [.ref (a 12), .ref (a 15), iv (x 4 0), iv (x 5 0), iv (x 6 0)]), (a 12, ar cI 5 (fun z : Int => x 2 (5 * 0 + z))), (a 15, ar cI 3 (fun z : Int => x 3 (3 * 0 + z))),
  (a 10, ob 2 [.ref (a 13), .ref (a 16), iv (x 4 1), iv (x 5 1), iv (x 6 1)]), (a 13, ar cI 5 (fun z : Int => x 2 (5 * 1 + z))), (a 16, ar cI 3 (fun z : Int => x 3 (3 * 1 + z))),
  (a 11, ob 2 [.ref (a 14), .ref (a 17), iv (x 4 2), iv (x 5 2), iv (x 6 2)]), (a 14, ar cI 5 (fun z : Int => x 2 (5 * 2 + z))), (a 17, ar cI 3 (fun z : Int => x 3 (3 * 2 + z)))]
theorem up_s {x : Nat → Int → Int} {r : Nat} {c v : Int} : up x r c v r c = v := by unfold up; rw [if_pos rfl, ui_s]
theorem up_n {x : Nat → Int → Int} {r : Nat} {c v j : Int} (h : j ≠ c) : up x r c v r j = x r j := by unfold up; rw [if_pos rfl, ui_n h]
theorem up_r {x : Nat → Int → Int} {r q : Nat} {c v j : Int} (h : q ≠ r) : up x r c v q j = x q j := by unfold up; rw [if_neg h]
/-! what each call asks, answers and leaves: A an argument in its range, B what else is asked -/
abbrev inS (i : Int) : Prop := 0 ≤ i ∧ i < 3
abbrev inT (j : Int) : Prop := 0 ≤ j ∧ j < 5
abbrev inR (v lo hi : Int) : Prop := lo ≤ v ∧ v ≤ hi
/-- 0: answered, 1, 2: the first, the second of its exceptions -/
def kd (A B : Prop) [Decidable A] [Decidable B] : Int := if A then (if B then 0 else 2) else 1
def pk {α : Type} (A B : Prop) [Decidable A] [Decidable B] (u v : α) : α := if A then (if B then u else v) else v
def x_begin (x : Nat → Int → Int) (w : Int) : Nat → Int → Int := fun q => if q = 0 then ui (ui (ui (x 0) 0 w) 1 0) 5 0 else if q = 4 then (fun _ => 0) else if q = 5 then (fun _ => -1) else if q = 6 then (fun _ => 0) else x q
abbrev pok (x : Nat → Int → Int) (j v : Int) : Prop := (j ≤ 0 ∨ v ≤ x 1 (j - 1)) ∧ (4 ≤ j ∨ x 1 (j + 1) ≤ v)
abbrev x_rules (x : Nat → Int → Int) (g r m : Int) : Nat → Int → Int := up (up (up x 0 2 g) 0 3 r) 0 4 m
abbrev x_put (x : Nat → Int → Int) (i j n : Int) : Nat → Int → Int := up x 3 (3 * i + j) (x 3 (3 * i + j) + n)
abbrev x_mark (x : Nat → Int → Int) (i j : Int) : Nat → Int → Int := up (up x 4 i j) 5 i (x 0 1)
abbrev x_move (x : Nat → Int → Int) (i j z n : Int) : Nat → Int → Int := up (up (up x 3 (3 * i + z) (x 3 (3 * i + z) - n)) 3 (3 * j + z) (x 3 (3 * j + z) + n)) 0 5 (x 0 5 - n * x 0 4)
/-- sales of the week of a store -/
abbrev slx (x : Nat → Int → Int) (i : Int) : Int := slv (x 2 (5 * i + x 4 i)) (skx x i)
abbrev tkx (x : Nat → Int → Int) (i : Int) : Int := slx x i * x 1 (x 4 i)
def x_run (x : Nat → Int → Int) : Nat → Int → Int := fun q => if q = 0 then ui (ui (x 0) 5 (x 0 5 + (tkx x 0 + tkx x 1 + tkx x 2))) 1 (x 0 1 + 1) else if q = 3 then (fun c => decn (skx x (c / 3)) (slx x (c / 3)).toNat (c % 3)) else if q = 6 then (fun c => x 6 c + slx x c) else x q
abbrev vx_best (x : Nat → Int → Int) (i ml : Int) : Int := pv (x 1) (dmx x i) (x 0 2) (x 0 3) ml (x 0 0 - x 0 1).toNat (x 4 i) (wtx x i) (whl (skx x i))
abbrev vx_plan (x : Nat → Int → Int) (i wk : Int) : Int := (pst (x 1) (dmx x i) (x 0 2) (x 0 3) 60 (x 0 0 - x 0 1).toNat (x 4 i) (wtx x i) (whl (skx x i)) (wk - x 0 1 + 1).toNat).1
/-- what is true of a store's plan -/
theorem wtx_in {x : Nat → Int → Int} (h : IX x) {i : Int} (hi : inS i) : 0 ≤ wtx x i ∧ wtx x i ≤ x 0 2 := by
  obtain ⟨h00, h01, h02, h03, h04, h1, h2, h3, h4, h5⟩ := h
  have h6 := h5 i hi.1 hi.2
  show 0 ≤ wtv _ _ _ ∧ wtv _ _ _ ≤ _
  unfold wtv
  omega
theorem ix_sk {x : Nat → Int → Int} (h : IX x) {i : Int} (hi : inS i) : Nn3 (skx x i) ∧ whl (skx x i) ≤ 60 := h.2.2.2.2.2.2.2.1 i hi.1 hi.2
theorem ix_wh {x : Nat → Int → Int} (h : IX x) {i : Int} (hi : inS i) : 0 ≤ whl (skx x i) ∧ whl (skx x i) ≤ 60 := ⟨by
  obtain ⟨h0, h1, h2⟩ := (ix_sk h hi).1
  show 0 ≤ _ + _ + _
  omega, (ix_sk h hi).2⟩
theorem ix_dm {x : Nat → Int → Int} (h : IX x) {i j : Int} (hi : inS i) (hj : inT j) : 0 ≤ x 2 (5 * i + j) ∧ x 2 (5 * i + j) ≤ 30 := h.2.2.2.2.2.2.1 i j hi.1 hi.2 hj.1 hj.2
theorem ix_pr {x : Nat → Int → Int} (h : IX x) {j : Int} (hj : inT j) : 0 ≤ x 1 j ∧ x 1 j ≤ 1000 := h.2.2.2.2.2.1 j hj.1 hj.2
theorem ix_st {x : Nat → Int → Int} (h : IX x) {i : Int} (hi : inS i) : 0 ≤ x 4 i ∧ x 4 i < 5 := h.2.2.2.2.2.2.2.2.1 i hi.1 hi.2
theorem ix_la {x : Nat → Int → Int} (h : IX x) {i : Int} (hi : inS i) : -1 ≤ x 5 i ∧ x 5 i ≤ x 0 1 := h.2.2.2.2.2.2.2.2.2 i hi.1 hi.2
theorem ix_pb {x : Nat → Int → Int} (h : IX x) {i : Int} (hi : inS i) : PB (x 1) (dmx x i) (x 0 1) (min (x 0 0) (x 0 1 + wtx x i)) (x 0 0) (x 0 2) (x 0 3) (x 4 i) (whl (skx x i)) := by
  have hw := wtx_in h hi
  have h6 := ix_wh h hi
  obtain ⟨h00, h01, h02, h03, h04, h1, h2, h3, h4, h5⟩ := id h
  exact ⟨by omega, by omega, h02, h03, h4 i hi.1 hi.2, h6, h1, fun j q1 q2 => h2 i j hi.1 hi.2 q1 q2⟩
