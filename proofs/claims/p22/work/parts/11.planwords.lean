/-! plans, as numbers: what is still to be had with n weeks left, at a step b, w weeks to wait, l pieces; -1: no plan -/
def mxf (f : Int → Int) (b : Int) : Nat → Int
  | 0 => -1
  | n + 1 => max (mxf f b n) (f (b + n))
def add1 (r x : Int) : Int := if r = -1 then -1 else r + x
/-- the worth of taking the step i now, V what follows -/
def cand (V : Int → Int → Int → Int) (pr d : Int → Int) (g b w l i : Int) : Int := if b < i ∧ 0 < w then -1 else add1 (V i (if b < i then g - 1 else if 0 < w then w - 1 else 0) (l - min (d i) l)) (min (d i) l * pr i)
def pv (pr d : Int → Int) (g r ml : Int) : Nat → Int → Int → Int → Int
  | 0 => fun _ _ l => if l ≤ ml then l * r else -1
  | n + 1 => fun b w l => mxf (cand (pv pr d g r ml n) pr d g b w l) b (5 - b).toNat
theorem mxf_ge (f : Int → Int) (b : Int) (n : Nat) : -1 ≤ mxf f b n := by
  induction n with
  | zero => exact Int.le_refl _
  | succ n ih => show -1 ≤ max _ _; omega
theorem mxf_le {f : Int → Int} {b M : Int} (hM : -1 ≤ M) : ∀ n : Nat, (∀ j : Nat, j < n → f (b + j) ≤ M) → mxf f b n ≤ M := by
  intro n
  induction n with
  | zero => intro _; exact hM
  | succ n ih =>
    intro h
    have h1 := ih (fun j hj => h j (by omega))
    have h2 := h n (by omega)
    show max _ _ ≤ M
    omega
theorem mxf_at {f : Int → Int} {b : Int} : ∀ (n : Nat) (j : Nat), j < n → f (b + j) ≤ mxf f b n := by
  intro n
  induction n with
  | zero => intro j hj; omega
  | succ n ih =>
    intro j hj
    show _ ≤ max _ _
    by_cases h : j < n
    · have := ih j h; omega
    · have e : j = n := by omega
      subst e; omega
/-- where it is not -1, some step gives it -/
theorem mxf_ex {f : Int → Int} {b : Int} : ∀ n : Nat, mxf f b n ≠ -1 → ∃ j : Nat, j < n ∧ f (b + j) = mxf f b n := by
  intro n
  induction n with
  | zero => intro h; exact absurd rfl h
  | succ n ih =>
    intro h
    have e : mxf f b (n + 1) = max (mxf f b n) (f (b + n)) := rfl
    by_cases h1 : mxf f b n ≤ f (b + n)
    · exact ⟨n, by omega, by rw [e]; omega⟩
    · obtain ⟨j, hj, hj2⟩ := ih (by intro h2; rw [e] at h; have := mxf_ge f b n; omega)
      exact ⟨j, by omega, by rw [e]; omega⟩
theorem mxf_congr {f g : Int → Int} {b : Int} : ∀ n : Nat, (∀ j : Nat, j < n → f (b + j) = g (b + j)) → mxf f b n = mxf g b n := by
  intro n
  induction n with
  | zero => intro _; rfl
  | succ n ih =>
    intro h
    show max _ _ = max _ _
    rw [ih (fun j hj => h j (by omega)), h n (by omega)]
/-- only the first counts -/
theorem mxf_one {f : Int → Int} {b : Int} (n : Nat) (h0 : -1 ≤ f b) (h : ∀ j : Nat, 0 < j → j < n + 1 → f (b + j) = -1) : mxf f b (n + 1) = f b := by
  induction n with
  | zero => show max (-1) (f (b + ((0 : Nat) : Int))) = f b; simp; omega
  | succ n ih =>
    show max (mxf f b (n + 1)) (f (b + ((n + 1 : Nat) : Int))) = f b
    rw [ih (fun j h1 h2 => h j h1 (by omega)), h (n + 1) (by omega) (by omega)]
    omega
section PV
variable {pr d : Int → Int} {g r ml : Int}
theorem add1_ge {a x : Int} (ha : -1 ≤ a) (hx : 0 ≤ x) : -1 ≤ add1 a x := by unfold add1; split <;> omega
theorem pv_ge (hd : ∀ j : Int, 0 ≤ j → j < 5 → 0 ≤ d j) (hpr : ∀ j : Int, 0 ≤ j → j < 5 → 0 ≤ pr j) (hr : 0 ≤ r) : ∀ (n : Nat) (b w l : Int), 0 ≤ l → -1 ≤ pv pr d g r ml n b w l := by
  intro n b w l hl
  cases n with
  | zero =>
    show -1 ≤ if l ≤ ml then l * r else -1
    split
    · have := Int.mul_nonneg hl hr; omega
    · exact Int.le_refl _
  | succ n => exact mxf_ge _ _ _
theorem pv_le (hd : ∀ j : Int, 0 ≤ j → j < 5 → 0 ≤ d j) (hpr : ∀ j : Int, 0 ≤ j → j < 5 → 0 ≤ pr j ∧ pr j ≤ 1000) (hr : r ≤ 1000) : ∀ (n : Nat) (b w l : Int), 0 ≤ b → 0 ≤ l → pv pr d g r ml n b w l ≤ l * 1000 := by
  intro n
  induction n with
  | zero =>
    intro b w l _ hl
    show (if l ≤ ml then l * r else -1) ≤ l * 1000
    split
    · exact Int.mul_le_mul_of_nonneg_left hr hl
    · omega
  | succ n ih =>
    intro b w l hb hl
    refine mxf_le (by omega) _ (fun j hj => ?_)
    have hj5 : b + (j : Int) < 5 := by omega
    have h1 := hd (b + j) (by omega) hj5
    have h2 := hpr (b + j) (by omega) hj5
    unfold cand
    generalize (if b < b + (j : Int) then g - 1 else if 0 < w then w - 1 else 0) = w2
    by_cases hc : b < b + (j : Int) ∧ 0 < w
    · rw [if_pos hc]; omega
    · rw [if_neg hc]
      have h3 : 0 ≤ min (d (b + j)) l := by omega
      have h4 := ih (b + j) w2 (l - min (d (b + j)) l) (by omega) (by omega)
      have h5 : min (d (b + j)) l * pr (b + j) ≤ min (d (b + j)) l * 1000 := Int.mul_le_mul_of_nonneg_left h2.2 h3
      unfold add1
      by_cases hV : pv pr d g r ml n (b + j) w2 (l - min (d (b + j)) l) = -1
      · rw [if_pos hV]; omega
      · rw [if_neg hV]; omega
/-- waiting: only one's own step -/
theorem pv_wait (hd : ∀ j : Int, 0 ≤ j → j < 5 → 0 ≤ d j) (hpr : ∀ j : Int, 0 ≤ j → j < 5 → 0 ≤ pr j) (hr : 0 ≤ r) (n : Nat) {b w l : Int} (hb : 0 ≤ b) (hb5 : b < 5) (hw : 0 < w) (hl : 0 ≤ l) :
    pv pr d g r ml (n + 1) b w l = add1 (pv pr d g r ml n b (w - 1) (l - min (d b) l)) (min (d b) l * pr b) := by
  have e0 : cand (pv pr d g r ml n) pr d g b w l b = add1 (pv pr d g r ml n b (w - 1) (l - min (d b) l)) (min (d b) l * pr b) := by
    unfold cand
    rw [if_neg (by omega), if_neg (by omega), if_pos hw]
  show mxf (cand (pv pr d g r ml n) pr d g b w l) b (5 - b).toNat = _
  rw [← e0]
  obtain ⟨k, hk⟩ : ∃ k : Nat, (5 - b).toNat = k + 1 := ⟨(5 - b).toNat - 1, by omega⟩
  rw [hk]
  refine mxf_one k ?_ (fun j h1 h2 => ?_)
  · rw [e0]
    have h1 := hd b hb hb5
    exact add1_ge (pv_ge hd hpr hr _ _ _ _ (by omega)) (Int.mul_nonneg (by omega) (hpr b hb hb5))
  · unfold cand
    rw [if_pos ⟨by omega, hw⟩]
/-- keeping a step through the wait at once -/
theorem pv_keep (hd : ∀ j : Int, 0 ≤ j → j < 5 → 0 ≤ d j) (hpr : ∀ j : Int, 0 ≤ j → j < 5 → 0 ≤ pr j) (hr : 0 ≤ r) {b : Int} (hb : 0 ≤ b) (hb5 : b < 5) : ∀ (k n : Nat) (w l : Int), 0 ≤ l → (k : Int) = min w (n : Int) →
    pv pr d g r ml n b w l = add1 (pv pr d g r ml (n - k) b 0 (l - min l (k * d b))) (min l (k * d b) * pr b) := by
  intro k
  have hd0 := hd b hb hb5
  induction k with
  | zero =>
    intro n w l hl hk
    have e : min l (((0 : Nat) : Int) * d b) = 0 := by simp; omega
    rw [e]
    have a0 : ∀ x : Int, add1 x (0 * pr b) = x := fun x => by unfold add1; split <;> omega
    rw [a0, Int.sub_zero, Nat.sub_zero]
    cases n with
    | zero => rfl
    | succ n =>
      have hw : w = 0 := by omega
      rw [hw]
  | succ k ih =>
    intro n w l hl hk
    cases n with
    | zero => omega
    | succ n =>
      rw [pv_wait hd hpr hr n hb hb5 (by omega) hl]
      have hmul : ((k + 1 : Nat) : Int) * d b = (k : Int) * d b + d b := by rw [Int.natCast_add, Int.add_mul]; simp
      have hkd : 0 ≤ (k : Int) * d b := Int.mul_nonneg (by omega) hd0
      have ih2 := ih n (w - 1) (l - min (d b) l) (by omega) (by omega)
      rw [ih2, hmul]
      generalize hq : (k : Int) * d b = q at hkd ⊢
      have en : n + 1 - (k + 1) = n - k := by omega
      rw [en]
      have e1 : l - min (d b) l - min (l - min (d b) l) q = l - min l (q + d b) := by omega
      have e2 : min (l - min (d b) l) q * pr b + min (d b) l * pr b = min l (q + d b) * pr b := by
        rw [← Int.add_mul]; congr 1; omega
      rw [e1]
      have p2 := hpr b hb hb5
      have h1 : 0 ≤ min (l - min (d b) l) q * pr b := Int.mul_nonneg (by omega) p2
      have h2 := pv_ge (g := g) (ml := ml) hd hpr hr (n - k) b 0 (l - min l (q + d b)) (by omega)
      unfold add1
      by_cases hV : pv pr d g r ml (n - k) b 0 (l - min l (q + d b)) = -1
      · rw [if_pos hV, if_pos hV, if_pos rfl]
      · rw [if_neg hV, if_neg hV, if_neg (by omega)]; omega
/-- a markdown keeps its step for the gap -/
theorem pv_take (hd : ∀ j : Int, 0 ≤ j → j < 5 → 0 ≤ d j) (hpr : ∀ j : Int, 0 ≤ j → j < 5 → 0 ≤ pr j) (hr : 0 ≤ r) (hg : 1 ≤ g) (n : Nat) {b i l : Int} (hbi : b ≤ i) (hi0 : 0 ≤ i) (hi : i < 5) (hl : 0 ≤ l) :
    pv pr d g r ml (n + 1) i (if b < i then g else 1) l = cand (pv pr d g r ml n) pr d g b 0 l i := by
  rw [pv_wait hd hpr hr n hi0 hi (by split <;> omega) hl]
  unfold cand
  rw [if_neg (show ¬ (b < i ∧ (0 : Int) < 0) by omega)]
  by_cases h : b < i
  · simp only [if_pos h]
  · simp only [if_neg h]
    rw [if_neg (show ¬ (0 : Int) < 0 by omega)]
    rfl
/-- a wait as long as what is left -/
theorem pv_min (hd : ∀ j : Int, 0 ≤ j → j < 5 → 0 ≤ d j) (hpr : ∀ j : Int, 0 ≤ j → j < 5 → 0 ≤ pr j) (hr : 0 ≤ r) {b : Int} (hb : 0 ≤ b) (hb5 : b < 5) (n : Nat) {w l : Int} (hw : 0 ≤ w) (hl : 0 ≤ l) : pv pr d g r ml n b (min w n) l = pv pr d g r ml n b w l := by
  obtain ⟨k, hk⟩ : ∃ k : Nat, (k : Int) = min w (n : Int) := ⟨(min w (n : Int)).toNat, by omega⟩
  rw [pv_keep hd hpr hr hb hb5 k n w l hl hk, pv_keep hd hpr hr hb hb5 k n (min w n) l hl (by omega)]
end PV
theorem mxf_step {f : Int → Int} {b i : Int} (h : b ≤ i) : mxf f b (i + 1 - b).toNat = max (mxf f b (i - b).toNat) (f i) := by
  have e : (i + 1 - b).toNat = (i - b).toNat + 1 := by omega
  rw [e]
  show max _ (f (b + (((i - b).toNat : Nat) : Int))) = _
  rw [show b + (((i - b).toNat : Nat) : Int) = i by omega]
/-- the first step that gives v -/
def fnd (f : Int → Int) (v : Int) (b : Int) : Nat → Int
  | 0 => b
  | n + 1 => if f b = v then b else fnd f v (b + 1) n
theorem fnd_eq {f : Int → Int} {v : Int} : ∀ (n : Nat) {b i : Int}, b ≤ i → i < b + n → f i = v → (∀ j : Int, b ≤ j → j < i → f j ≠ v) → fnd f v b n = i := by
  intro n
  induction n with
  | zero => intro b i h1 h2; omega
  | succ n ih =>
    intro b i h1 h2 h3 h4
    show (if f b = v then b else fnd f v (b + 1) n) = i
    by_cases hb : b = i
    · subst hb; rw [if_pos h3]
    · rw [if_neg (h4 b (by omega) (by omega))]
      exact ih (by omega) (by omega) h3 (fun j q1 q2 => h4 j (by omega) q2)
/-- a plan week by week: step, weeks to wait, what is left, behind k weeks -/
def pst (pr d : Int → Int) (g r ml : Int) (n0 : Nat) (b w l : Int) : Nat → Int × Int × Int
  | 0 => (b, w, l)
  | k + 1 =>
    let q := pst pr d g r ml n0 b w l k
    let i := fnd (cand (pv pr d g r ml (n0 - k - 1)) pr d g q.1 q.2.1 q.2.2) (pv pr d g r ml (n0 - k) q.1 q.2.1 q.2.2) q.1 (5 - q.1).toNat
    (i, if q.1 < i then g - 1 else if 0 < q.2.1 then q.2.1 - 1 else 0, q.2.2 - min (d i) q.2.2)
section PV2
variable {pr d : Int → Int} {g r ml : Int}
theorem cand_in (hd : ∀ j : Int, 0 ≤ j → j < 5 → 0 ≤ d j) (hpr : ∀ j : Int, 0 ≤ j → j < 5 → 0 ≤ pr j ∧ pr j ≤ 1000) (hr : 0 ≤ r ∧ r ≤ 1000) (n : Nat) {b i l w : Int} (hi0 : 0 ≤ i) (hi : i < 5) (hl : 0 ≤ l) : -1 ≤ cand (pv pr d g r ml n) pr d g b w l i ∧ cand (pv pr d g r ml n) pr d g b w l i ≤ l * 1000 := by
  have h1 := hd i hi0 hi
  have h2 := hpr i hi0 hi
  unfold cand
  generalize (if b < i then g - 1 else if 0 < w then w - 1 else 0) = w2
  by_cases hc : b < i ∧ 0 < w
  · rw [if_pos hc]; omega
  · rw [if_neg hc]
    have h3 : 0 ≤ min (d i) l := by omega
    have h4 := pv_le (g := g) (ml := ml) hd hpr hr.2 n i w2 (l - min (d i) l) hi0 (by omega)
    have h6 := pv_ge (g := g) (ml := ml) hd (fun j a b => (hpr j a b).1) hr.1 n i w2 (l - min (d i) l) (by omega)
    have h5 : min (d i) l * pr i ≤ min (d i) l * 1000 := Int.mul_le_mul_of_nonneg_left h2.2 h3
    have h7 : 0 ≤ min (d i) l * pr i := Int.mul_nonneg h3 h2.1
    unfold add1
    by_cases hV : pv pr d g r ml n i w2 (l - min (d i) l) = -1
    · rw [if_pos hV]; omega
    · rw [if_neg hV]; omega
/-- nothing is asked of what is left: some plan is there -/
theorem pv_pos (hd : ∀ j : Int, 0 ≤ j → j < 5 → 0 ≤ d j) (hpr : ∀ j : Int, 0 ≤ j → j < 5 → 0 ≤ pr j) (hr : 0 ≤ r) : ∀ (n : Nat) (b w l : Int), 0 ≤ b → b < 5 → 0 ≤ l → l ≤ ml → 0 ≤ pv pr d g r ml n b w l := by
  intro n
  induction n with
  | zero =>
    intro b w l _ _ hl hm
    show 0 ≤ if l ≤ ml then l * r else -1
    rw [if_pos hm]; exact Int.mul_nonneg hl hr
  | succ n ih =>
    intro b w l hb hb5 hl hm
    have h0 : cand (pv pr d g r ml n) pr d g b w l (b + ((0 : Nat) : Int)) ≤ pv pr d g r ml (n + 1) b w l := mxf_at _ 0 (by omega)
    have h1 := hd b hb hb5
    have h2 := hpr b hb hb5
    have h3 := ih b (if 0 < w then w - 1 else 0) (l - min (d b) l) hb hb5 (by omega) (by omega)
    have h7 : 0 ≤ min (d b) l * pr b := Int.mul_nonneg (by omega) h2
    have h4 : 0 ≤ cand (pv pr d g r ml n) pr d g b w l (b + ((0 : Nat) : Int)) := by
      simp only [Int.natCast_zero, Int.add_zero]
      unfold cand
      rw [if_neg (show ¬ (b < b ∧ 0 < w) by omega), if_neg (show ¬ b < b by omega)]
      unfold add1
      rw [if_neg (by omega)]
      omega
    omega
/-- some step gives the best -/
theorem pv_ex (n : Nat) {b w l : Int} (hb5 : b < 5) (h : pv pr d g r ml (n + 1) b w l ≠ -1) : ∃ i : Int, b ≤ i ∧ i < 5 ∧ cand (pv pr d g r ml n) pr d g b w l i = pv pr d g r ml (n + 1) b w l := by
  obtain ⟨j, h1, h2⟩ := mxf_ex _ h
  exact ⟨b + j, by omega, by omega, h2⟩
/-- while waiting, one's own step is the first that gives the best -/
theorem fnd_wait (hd : ∀ j : Int, 0 ≤ j → j < 5 → 0 ≤ d j) (hpr : ∀ j : Int, 0 ≤ j → j < 5 → 0 ≤ pr j) (hr : 0 ≤ r) (n : Nat) {b w l : Int} (hb : 0 ≤ b) (hb5 : b < 5) (hw : 0 < w) (hl : 0 ≤ l) :
    fnd (cand (pv pr d g r ml n) pr d g b w l) (pv pr d g r ml (n + 1) b w l) b (5 - b).toNat = b := by
  refine fnd_eq _ (Int.le_refl b) (by omega) ?_ (fun j h1 h2 => by omega)
  rw [pv_wait hd hpr hr n hb hb5 hw hl]
  unfold cand
  rw [if_neg (show ¬ (b < b ∧ 0 < w) by omega), if_neg (show ¬ b < b by omega), if_pos hw]
end PV2
/-- what a plan's numbers are -/
def PB (pr d : Int → Int) (fw fr ew g r os ok : Int) : Prop := (0 ≤ fw ∧ fw ≤ ew ∧ ew ≤ 10) ∧ (fw ≤ fr ∧ fr ≤ ew) ∧ (1 ≤ g ∧ g ≤ 4) ∧ (0 ≤ r ∧ r ≤ 1000) ∧ (0 ≤ os ∧ os < 5) ∧ (0 ≤ ok ∧ ok ≤ 60) ∧ (∀ j : Int, 0 ≤ j → j < 5 → 0 ≤ pr j ∧ pr j ≤ 1000) ∧ (∀ j : Int, 0 ≤ j → j < 5 → 0 ≤ d j ∧ d j ≤ 30)
/-- the table is told from the week lo on -/
def GW (pr d : Int → Int) (g r ml ew os ok : Int) (wo : Int → Int) (lo : Int) : Prop := ∀ wk st lf : Int, lo ≤ wk → wk < ew → os ≤ st → st < 5 → 0 ≤ lf → lf ≤ ok → wo ((wk * 5 + st) * 61 + lf) = pv pr d g r ml (ew - wk).toNat st 0 lf
/-- .. and of the week wk, up to step st, lf left -/
def GP (pr d : Int → Int) (g r ml ew os ok : Int) (wo : Int → Int) (wk st lf : Int) : Prop := ∀ st1 lf1 : Int, os ≤ st1 → st1 < 5 → 0 ≤ lf1 → lf1 ≤ ok → (st1 < st ∨ (st1 = st ∧ lf1 < lf)) → wo ((wk * 5 + st1) * 61 + lf1) = pv pr d g r ml (ew - wk).toNat st1 0 lf1
theorem GW.put {pr d : Int → Int} {g r ml ew os ok : Int} {wo : Int → Int} {wk st lf v : Int} (h : GW pr d g r ml ew os ok wo (wk + 1)) (hos : 0 ≤ os) (h1 : st < 5) (h2 : 0 ≤ st) (h3 : 0 ≤ lf) (h4 : lf ≤ ok) (h5 : ok ≤ 60) : GW pr d g r ml ew os ok (ui wo ((wk * 5 + st) * 61 + lf) v) (wk + 1) := by
  intro wk1 st1 lf1 q1 q2 q3 q4 q5 q6
  rw [ui_n (by omega)]
  exact h wk1 st1 lf1 q1 q2 q3 q4 q5 q6
theorem GP.put {pr d : Int → Int} {g r ml ew os ok : Int} {wo : Int → Int} {wk st lf : Int} (h : GP pr d g r ml ew os ok wo wk st lf) (hos : 0 ≤ os) (h1 : st < 5) (h2 : 0 ≤ st) (h3 : 0 ≤ lf) (h4 : lf ≤ ok) (h5 : ok ≤ 60) : GP pr d g r ml ew os ok (ui wo ((wk * 5 + st) * 61 + lf) (pv pr d g r ml (ew - wk).toNat st 0 lf)) wk st (lf + 1) := by
  intro st1 lf1 q1 q2 q3 q4 q5
  by_cases he : st1 = st ∧ lf1 = lf
  · obtain ⟨rfl, rfl⟩ := he
    rw [ui_s]
  · rw [ui_n (by omega)]
    exact h st1 lf1 q1 q2 q3 q4 (by omega)
theorem GP.next {pr d : Int → Int} {g r ml ew os ok : Int} {wo : Int → Int} {wk st lf : Int} (h : GP pr d g r ml ew os ok wo wk st lf) (hl : ok < lf) : GP pr d g r ml ew os ok wo wk (st + 1) 0 := by
  intro st1 lf1 q1 q2 q3 q4 q5
  exact h st1 lf1 q1 q2 q3 q4 (by omega)
theorem GP.zero {pr d : Int → Int} {g r ml ew os ok : Int} {wo : Int → Int} {wk : Int} : GP pr d g r ml ew os ok wo wk os 0 := by
  intro st1 lf1 q1 q2 q3 q4 q5
  omega
theorem GW.down {pr d : Int → Int} {g r ml ew os ok : Int} {wo : Int → Int} {wk st : Int} (h : GW pr d g r ml ew os ok wo (wk + 1)) (hp : GP pr d g r ml ew os ok wo wk st 0) (hs : 5 ≤ st) : GW pr d g r ml ew os ok wo wk := by
  intro wk1 st1 lf1 q1 q2 q3 q4 q5 q6
  by_cases he : wk1 = wk
  · subst he; exact hp st1 lf1 q3 q4 q5 q6 (by omega)
  · exact h wk1 st1 lf1 (by omega) q2 q3 q4 q5 q6
theorem GW.mono {pr d : Int → Int} {g r ml ew os ok : Int} {wo : Int → Int} {lo lo2 : Int} (h : GW pr d g r ml ew os ok wo lo) (hl : lo ≤ lo2) : GW pr d g r ml ew os ok wo lo2 := fun wk st lf q1 => h wk st lf (by omega)
