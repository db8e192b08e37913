/-! ladders: a row of steps, week by week; what one is worth, and the best of it and all behind it -/
def ladv (pr d : Int → Int) (g r : Int) (la : Int → Int) : Nat → Int → Int → Int → Int → Int
  | 0 => fun _ _ _ l => l * r
  | n + 1 => fun i b w l => cand (ladv pr d g r la n (i + 1)) pr d g b w l (la i)
def ladg (pr d : Int → Int) (g r : Int) (la : Int → Int) : Nat → Int → Int → Int → Int → Int
  | 0 => fun _ _ _ l => l * r
  | n + 1 => fun i b w l => max (cand (ladg pr d g r la n (i + 1)) pr d g b w l (la i)) (mxf (cand (pv pr d g r 60 n) pr d g b w l) (la i + 1) (4 - la i).toNat)
/-- the ladder as a number -/
def ladn (la : Int → Int) : Nat → Int → Int
  | 0 => fun _ => 0
  | n + 1 => fun i => la i * 5 ^ n + ladn la n (i + 1)
/-- the steps of a ladder -/
def LA (la : Int → Int) (n : Int) : Prop := ∀ j : Int, 0 ≤ j → j < n → 0 ≤ la j ∧ la j < 5
/-- la2 is the next ladder, turned at the week t -/
def LN (la la2 : Int → Int) (n t : Int) : Prop := 0 ≤ t ∧ t < n ∧ la t ≠ 4 ∧ (∀ j : Int, t < j → j < n → la j = 4) ∧ ∀ j : Int, 0 ≤ j → j < n → la2 j = if j < t then la j else la t + 1
theorem mxf_first {f : Int → Int} {b : Int} (k : Nat) (h : -1 ≤ f b) : mxf f b (k + 1) = max (f b) (mxf f (b + 1) k) := by
  induction k with
  | zero => show max (-1) (f (b + ((0 : Nat) : Int))) = max (f b) (-1); simp; omega
  | succ k ih =>
    show max (mxf f b (k + 1)) (f (b + ((k + 1 : Nat) : Int))) = max (f b) (max (mxf f (b + 1) k) (f (b + 1 + (k : Int))))
    rw [ih, show b + ((k + 1 : Nat) : Int) = b + 1 + (k : Int) by omega]
    omega
section LAD
variable {pr d : Int → Int} {g r : Int} {la la2 : Int → Int}
theorem cand_ge {V : Int → Int → Int → Int} {b w l i : Int} (hd : 0 ≤ d i) (hpr : 0 ≤ pr i) (hl : 0 ≤ l) (hV : ∀ b1 w1 l1 : Int, 0 ≤ l1 → -1 ≤ V b1 w1 l1) : -1 ≤ cand V pr d g b w l i := by
  unfold cand
  split
  · exact Int.le_refl _
  · exact add1_ge (hV _ _ _ (by omega)) (Int.mul_nonneg (by omega) hpr)
theorem cand_max {V1 V2 V3 : Int → Int → Int → Int} {b w l i : Int} (hd : 0 ≤ d i) (hpr : 0 ≤ pr i) (hl : 0 ≤ l) (h1 : ∀ b1 w1 l1 : Int, 0 ≤ l1 → -1 ≤ V1 b1 w1 l1) (h2 : ∀ b1 w1 l1 : Int, 0 ≤ l1 → -1 ≤ V2 b1 w1 l1) (h : ∀ b1 w1 l1 : Int, 0 ≤ l1 → V3 b1 w1 l1 = max (V1 b1 w1 l1) (V2 b1 w1 l1)) :
    cand V3 pr d g b w l i = max (cand V1 pr d g b w l i) (cand V2 pr d g b w l i) := by
  unfold cand
  generalize (if b < i then g - 1 else if 0 < w then w - 1 else 0) = w2
  by_cases hc : b < i ∧ 0 < w
  · simp only [if_pos hc]; omega
  · simp only [if_neg hc]
    have q0 : 0 ≤ l - min (d i) l := by omega
    have q3 := h i w2 _ q0
    have q1 := h1 i w2 _ q0
    have q2 := h2 i w2 _ q0
    have q4 : 0 ≤ min (d i) l * pr i := Int.mul_nonneg (by omega) hpr
    unfold add1
    generalize V3 i w2 (l - min (d i) l) = z3 at q3 ⊢
    generalize V1 i w2 (l - min (d i) l) = z1 at q3 q1 ⊢
    generalize V2 i w2 (l - min (d i) l) = z2 at q3 q2 ⊢
    generalize min (d i) l * pr i = y at q4 ⊢
    split <;> split <;> split <;> omega
theorem cand_congr {V1 V2 : Int → Int → Int → Int} {b w l i : Int} (hd : 0 ≤ d i) (hl : 0 ≤ l) (h : ∀ w1 l1 : Int, 0 ≤ l1 → V1 i w1 l1 = V2 i w1 l1) : cand V1 pr d g b w l i = cand V2 pr d g b w l i := by
  unfold cand
  rw [h _ _ (by omega)]
theorem ladv_ge (hd : ∀ j : Int, 0 ≤ j → j < 5 → 0 ≤ d j) (hpr : ∀ j : Int, 0 ≤ j → j < 5 → 0 ≤ pr j) (hr : 0 ≤ r) {N : Int} (hla : LA la N) : ∀ (n : Nat) (i b w l : Int), 0 ≤ i → i + n ≤ N → 0 ≤ l → -1 ≤ ladv pr d g r la n i b w l := by
  intro n
  induction n with
  | zero => intro i b w l _ _ hl; show -1 ≤ l * r; have := Int.mul_nonneg hl hr; omega
  | succ n ih =>
    intro i b w l hi hN hl
    have h1 := hla i hi (by omega)
    exact cand_ge (hd _ h1.1 h1.2) (hpr _ h1.1 h1.2) hl (fun b1 w1 l1 q => ih (i + 1) b1 w1 l1 (by omega) (by omega) q)
theorem ladg_ge (hd : ∀ j : Int, 0 ≤ j → j < 5 → 0 ≤ d j) (hpr : ∀ j : Int, 0 ≤ j → j < 5 → 0 ≤ pr j) (hr : 0 ≤ r) (n : Nat) (i b w l : Int) (hl : 0 ≤ l) : -1 ≤ ladg pr d g r la n i b w l := by
  cases n with
  | zero => show -1 ≤ l * r; have := Int.mul_nonneg hl hr; omega
  | succ n => show -1 ≤ max _ _; have := mxf_ge (cand (pv pr d g r 60 n) pr d g b w l) (la i + 1) (4 - la i).toNat; omega
/-- the first ladder: all of them -/
theorem ladg_first (hd : ∀ j : Int, 0 ≤ j → j < 5 → 0 ≤ d j) (hpr : ∀ j : Int, 0 ≤ j → j < 5 → 0 ≤ pr j) (hr : 0 ≤ r) {b : Int} (hb : 0 ≤ b) (hb5 : b < 5) : ∀ (n : Nat) (i w l : Int), (∀ j : Int, i ≤ j → j < i + n → la j = b) → 0 ≤ l → l ≤ 60 → ladg pr d g r la n i b w l = pv pr d g r 60 n b w l := by
  intro n
  induction n with
  | zero => intro i w l _ hl h60; show l * r = if l ≤ 60 then l * r else -1; rw [if_pos h60]
  | succ n ih =>
    intro i w l hla hl h60
    have e0 := hla i (Int.le_refl i) (by omega)
    have hd1 := hd b hb hb5
    show max (cand (ladg pr d g r la n (i + 1)) pr d g b w l (la i)) (mxf (cand (pv pr d g r 60 n) pr d g b w l) (la i + 1) (4 - la i).toNat) = mxf (cand (pv pr d g r 60 n) pr d g b w l) b (5 - b).toNat
    rw [e0, show (5 - b).toNat = (4 - b).toNat + 1 by omega, mxf_first _ (cand_ge (hd _ hb hb5) (hpr _ hb hb5) hl (fun b1 w1 l1 q => pv_ge hd hpr hr n b1 w1 l1 q))]
    congr 1
    unfold cand
    rw [ih (i + 1) _ _ (fun j q1 q2 => hla j (by omega) (by omega)) (by omega) (by omega)]
/-- the last ladder: it alone -/
theorem ladg_last (hd : ∀ j : Int, 0 ≤ j → j < 5 → 0 ≤ d j) (hpr : ∀ j : Int, 0 ≤ j → j < 5 → 0 ≤ pr j) (hr : 0 ≤ r) {N : Int} (hla : LA la N) : ∀ (n : Nat) (i b w l : Int), 0 ≤ i → i + n = N → (∀ j : Int, i ≤ j → j < N → la j = 4) → 0 ≤ l → ladg pr d g r la n i b w l = ladv pr d g r la n i b w l := by
  intro n
  induction n with
  | zero => intro i b w l _ _ _ _; rfl
  | succ n ih =>
    intro i b w l hi hN h4 hl
    have e0 := h4 i (Int.le_refl i) (by omega)
    show max (cand (ladg pr d g r la n (i + 1)) pr d g b w l (la i)) (mxf (cand (pv pr d g r 60 n) pr d g b w l) (la i + 1) (4 - la i).toNat) = cand (ladv pr d g r la n (i + 1)) pr d g b w l (la i)
    rw [e0]
    show max _ (-1) = _
    rw [cand_congr (V2 := ladv pr d g r la n (i + 1)) (hd 4 (by decide) (by decide)) hl (fun w1 l1 q => ih (i + 1) 4 w1 l1 (by omega) (by omega) (fun j q1 q2 => h4 j (by omega) q2) q)]
    have := cand_ge (V := ladv pr d g r la n (i + 1)) (g := g) (b := b) (w := w) (hd 4 (by decide) (by decide)) (hpr 4 (by decide) (by decide)) hl (fun b1 w1 l1 q => ladv_ge (g := g) hd hpr hr hla n (i + 1) b1 w1 l1 (by omega) (by omega) q)
    omega
/-- one ladder further -/
theorem ladg_next (hd : ∀ j : Int, 0 ≤ j → j < 5 → 0 ≤ d j) (hpr : ∀ j : Int, 0 ≤ j → j < 5 → 0 ≤ pr j) (hr : 0 ≤ r) {N t : Int} (hla : LA la N) (hn : LN la la2 N t) : ∀ (n : Nat) (i b w l : Int), 0 ≤ i → i + n = N → i ≤ t → 0 ≤ l → l ≤ 60 → ladg pr d g r la n i b w l = max (ladv pr d g r la n i b w l) (ladg pr d g r la2 n i b w l) := by
  obtain ⟨ht0, htN, ht4, htl, hl2⟩ := hn
  intro n
  induction n with
  | zero => intro i b w l hi hN hit; omega
  | succ n ih =>
    intro i b w l hi hN hit hl h60
    have hr1 := hla i hi (by omega)
    have hdi := hd _ hr1.1 hr1.2
    have hpi := hpr _ hr1.1 hr1.2
    show max (cand (ladg pr d g r la n (i + 1)) pr d g b w l (la i)) (mxf (cand (pv pr d g r 60 n) pr d g b w l) (la i + 1) (4 - la i).toNat) = max (cand (ladv pr d g r la n (i + 1)) pr d g b w l (la i)) (max (cand (ladg pr d g r la2 n (i + 1)) pr d g b w l (la2 i)) (mxf (cand (pv pr d g r 60 n) pr d g b w l) (la2 i + 1) (4 - la2 i).toNat))
    have e2 := hl2 i hi (by omega)
    by_cases hlt : i < t
    · rw [if_pos hlt] at e2
      rw [e2]
      have key : cand (ladg pr d g r la n (i + 1)) pr d g b w l (la i) = max (cand (ladv pr d g r la n (i + 1)) pr d g b w l (la i)) (cand (ladg pr d g r la2 n (i + 1)) pr d g b w l (la i)) := by
        unfold cand
        generalize (if b < la i then g - 1 else if 0 < w then w - 1 else 0) = w2
        by_cases hc : b < la i ∧ 0 < w
        · simp only [if_pos hc]; omega
        · simp only [if_neg hc]
          have q0 : 0 ≤ l - min (d (la i)) l := by omega
          have q3 := ih (i + 1) (la i) w2 (l - min (d (la i)) l) (by omega) (by omega) (by omega) q0 (by omega)
          have q1 := ladv_ge (g := g) hd hpr hr hla n (i + 1) (la i) w2 (l - min (d (la i)) l) (by omega) (by omega) q0
          have q2 := ladg_ge (g := g) (la := la2) hd hpr hr n (i + 1) (la i) w2 (l - min (d (la i)) l) q0
          have q4 : 0 ≤ min (d (la i)) l * pr (la i) := Int.mul_nonneg (by omega) hpi
          unfold add1
          generalize ladg pr d g r la n (i + 1) (la i) w2 (l - min (d (la i)) l) = z3 at q3 ⊢
          generalize ladv pr d g r la n (i + 1) (la i) w2 (l - min (d (la i)) l) = z1 at q3 q1 ⊢
          generalize ladg pr d g r la2 n (i + 1) (la i) w2 (l - min (d (la i)) l) = z2 at q3 q2 ⊢
          generalize min (d (la i)) l * pr (la i) = y at q4 ⊢
          split <;> split <;> split <;> omega
      rw [key]
      omega
    · have hit2 : i = t := by omega
      subst hit2
      rw [if_neg (by omega)] at e2
      rw [e2]
      have c0 : 0 ≤ la i + 1 := by omega
      have c5 : la i + 1 < 5 := by omega
      rw [cand_congr (V1 := ladg pr d g r la n (i + 1)) (V2 := ladv pr d g r la n (i + 1)) hdi hl (fun w1 l1 q => ladg_last hd hpr hr hla n (i + 1) (la i) w1 l1 (by omega) (by omega) (fun j q1 q2 => htl j (by omega) q2) q)]
      congr 1
      rw [show (4 - la i).toNat = (4 - (la i + 1)).toNat + 1 by omega, mxf_first _ (cand_ge (hd _ c0 c5) (hpr _ c0 c5) hl (fun b1 w1 l1 q => pv_ge hd hpr hr n b1 w1 l1 q))]
      congr 1
      unfold cand
      have hdc := hd _ c0 c5
      rw [ladg_first hd hpr hr c0 c5 n (i + 1) _ _ (fun j q1 q2 => by rw [hl2 j (by omega) (by omega), if_neg (by omega)]) (by omega) (by omega)]
theorem ladn_lt {N : Int} (hla : LA la N) : ∀ (n : Nat) (i : Int), 0 ≤ i → i + n ≤ N → 0 ≤ ladn la n i ∧ ladn la n i < 5 ^ n := by
  intro n
  induction n with
  | zero => intro i _ _; exact ⟨Int.le_refl _, show (0 : Int) < 5 ^ 0 from by decide⟩
  | succ n ih =>
    intro i hi hN
    have h1 := hla i hi (by omega)
    have h2 := ih (i + 1) (by omega) (by omega)
    have h5 : (0 : Int) < 5 ^ n := Int.pow_pos (by decide)
    have h3 : 0 ≤ la i * 5 ^ n := Int.mul_nonneg h1.1 (by omega)
    have h4 : la i * 5 ^ n ≤ 4 * 5 ^ n := Int.mul_le_mul_of_nonneg_right (by omega) (by omega)
    have e : (5 : Int) ^ (n + 1) = 5 ^ n * 5 := Int.pow_succ 5 n
    show 0 ≤ la i * 5 ^ n + ladn la n (i + 1) ∧ la i * 5 ^ n + ladn la n (i + 1) < 5 ^ (n + 1)
    rw [e]
    omega
theorem ladn_next {N t : Int} (hla : LA la N) (hla2 : LA la2 N) (hn : LN la la2 N t) : ∀ (n : Nat) (i : Int), 0 ≤ i → i + n = N → i ≤ t → ladn la n i + 1 ≤ ladn la2 n i := by
  obtain ⟨ht0, htN, ht4, htl, hl2⟩ := hn
  intro n
  induction n with
  | zero => intro i hi hN hit; omega
  | succ n ih =>
    intro i hi hN hit
    have e2 := hl2 i hi (by omega)
    show la i * 5 ^ n + ladn la n (i + 1) + 1 ≤ la2 i * 5 ^ n + ladn la2 n (i + 1)
    by_cases hlt : i < t
    · rw [if_pos hlt] at e2
      rw [e2]
      have := ih (i + 1) (by omega) (by omega) (by omega)
      omega
    · have hit2 : i = t := by omega
      subst hit2
      rw [if_neg (by omega)] at e2
      rw [e2, Int.add_mul]
      have h1 := ladn_lt hla n (i + 1) (by omega) (by omega)
      have h2 := ladn_lt hla2 n (i + 1) (by omega) (by omega)
      omega
theorem LN.range {N t : Int} (hla : LA la N) (hn : LN la la2 N t) : LA la2 N := by
  obtain ⟨ht0, htN, ht4, htl, hl2⟩ := hn
  intro j h0 h1
  have a1 := hla j h0 h1
  have a2 := hla t ht0 htN
  rw [hl2 j h0 h1]
  split <;> omega
end LAD
