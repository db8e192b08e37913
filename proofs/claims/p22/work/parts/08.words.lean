/-! what a store's numbers say -/
/-- how many sizes are in stock -/
def szs (k : Int → Int) : Int := (if 0 < k 0 then 1 else 0) + (if 0 < k 1 then 1 else 0) + (if 0 < k 2 then 1 else 0)
/-- the whole stock -/
def whl (k : Int → Int) : Int := k 0 + k 1 + k 2
/-- what is sold in a week at a demand -/
def slv (dm : Int) (k : Int → Int) : Int := min (dm * szs k / 3) (whl k)
/-- weeks to wait: last markdown, gap, week -/
def wtv (md g wk : Int) : Int := if md = -1 then 0 else max 0 (md + g - wk)
def fu1 (k : Int → Int) : Int := if k 0 < k 1 then 1 else 0
/-- the fullest size -/
def fst (k : Int → Int) : Int := if k (fu1 k) < k 2 then 2 else fu1 k
theorem szs_in (k : Int → Int) : 0 ≤ szs k ∧ szs k ≤ 3 := by
  unfold szs
  by_cases h0 : 0 < k 0 <;> by_cases h1 : 0 < k 1 <;> by_cases h2 : 0 < k 2 <;> simp only [h0, h1, h2, if_true, if_false] <;> decide
theorem fu1_in (k : Int → Int) : 0 ≤ fu1 k ∧ fu1 k ≤ 1 := by
  unfold fu1
  by_cases h : k 0 < k 1 <;> simp only [h, if_true, if_false] <;> decide
theorem fst_in (k : Int → Int) : 0 ≤ fst k ∧ fst k ≤ 2 := by
  have h1 := fu1_in k
  unfold fst
  by_cases h : k (fu1 k) < k 2
  · rw [if_pos h]; decide
  · rw [if_neg h]; omega
/-- a piece goes -/
def dec1 (k : Int → Int) : Int → Int := ui k (fst k) (k (fst k) - 1)
def decn (k : Int → Int) : Nat → Int → Int
  | 0 => k
  | n + 1 => dec1 (decn k n)
theorem whl_dec1 (k : Int → Int) : whl (dec1 k) = whl k - 1 := by
  have h := fst_in k
  have h3 : fst k = 0 ∨ fst k = 1 ∨ fst k = 2 := by omega
  unfold whl dec1
  rcases h3 with e | e | e <;> rw [e] <;> simp [ui] <;> omega
theorem whl_decn (k : Int → Int) (n : Nat) : whl (decn k n) = whl k - n := by
  induction n with
  | zero => simp [decn]
  | succ n ih => show whl (dec1 (decn k n)) = _; rw [whl_dec1, ih]; omega
/-- the fullest holds something, where anything is -/
theorem fst_pos {k : Int → Int} (h0 : 0 ≤ k 0) (h1 : 0 ≤ k 1) (h2 : 0 ≤ k 2) (h : 0 < whl k) : 0 < k (fst k) := by
  unfold whl at h
  unfold fst fu1
  by_cases a : k 0 < k 1
  · simp only [if_pos a]
    by_cases b : k 1 < k 2
    · rw [if_pos b]; omega
    · rw [if_neg b]; omega
  · simp only [if_neg a]
    by_cases b : k 0 < k 2
    · rw [if_pos b]; omega
    · rw [if_neg b]; omega
def Nn3 (k : Int → Int) : Prop := 0 ≤ k 0 ∧ 0 ≤ k 1 ∧ 0 ≤ k 2
theorem dec1_nn {k : Int → Int} (hk : Nn3 k) (h : 0 < whl k) : Nn3 (dec1 k) := by
  obtain ⟨h0, h1, h2⟩ := hk
  have hp := fst_pos h0 h1 h2 h
  have h3 := fst_in k
  have h4 : fst k = 0 ∨ fst k = 1 ∨ fst k = 2 := by omega
  unfold dec1
  rcases h4 with e | e | e <;> rw [e] at hp ⊢ <;> simp only [Nn3, ui] <;> simp <;> omega
theorem decn_nn {k : Int → Int} (hk : Nn3 k) (n : Nat) (h : (n : Int) ≤ whl k) : Nn3 (decn k n) := by
  induction n with
  | zero => exact hk
  | succ n ih => exact dec1_nn (ih (by omega)) (by rw [whl_decn]; omega)
theorem slv_in {dm : Int} {k : Int → Int} (hd : 0 ≤ dm) (hk : Nn3 k) : 0 ≤ slv dm k ∧ slv dm k ≤ whl k := by
  obtain ⟨h0, h1, h2⟩ := hk
  have h3 := szs_in k
  have h4 : 0 ≤ dm * szs k := Int.mul_nonneg hd h3.1
  have h5 : 0 ≤ dm * szs k / 3 := Int.ediv_nonneg h4 (by decide)
  unfold slv
  have h6 : 0 ≤ whl k := by unfold whl; omega
  omega
