/-! what the law's own calls answer: C what is asked, r the answer, xv what is left -/
def OU (C : Prop) (v r : Int) (x2 xv x : Nat → Int → Int) : Prop := (C ∧ v = r ∧ x2 = xv) ∨ (¬ C ∧ v = -3000000 ∧ x2 = x)
def OV (C : Prop) (v r : Int) : Prop := (C ∧ v = r) ∨ (¬ C ∧ v = -3000000)
theorem OU_tn {g : Int} {C C' : Prop} {v v' r r' : Int} {x2 xv x u2 uv u : Nat → Int → Int} (h : OU C v r x2 xv x) (h' : OU C' v' r' u2 uv u) (hT : TN g x u) (hI : IX x) (hJ : IX u) (hC : C' ↔ C) (hr : C → r' = r) (ht : C → TN g xv uv) (hi : C → IX xv) (hj : C' → IX uv) : v' = v ∧ TN g x2 u2 ∧ IX x2 ∧ IX u2 := by
  rcases h with ⟨a1, a2, a3⟩ | ⟨a1, a2, a3⟩ <;> rcases h' with ⟨b1, b2, b3⟩ | ⟨b1, b2, b3⟩
  · rw [a2, b2, a3, b3]; exact ⟨hr a1, ht a1, hi a1, hj b1⟩
  · exact absurd (hC.mpr a1) b1
  · exact absurd (hC.mp b1) a1
  · rw [a2, b2, a3, b3]; exact ⟨rfl, hT, hI, hJ⟩
theorem OV_eq {C C' : Prop} {v v' r r' : Int} (h : OV C v r) (h' : OV C' v' r') (hC : C' ↔ C) (hr : C → r' = r) : v' = v := by
  rcases h with ⟨a1, a2⟩ | ⟨a1, a2⟩ <;> rcases h' with ⟨b1, b2⟩ | ⟨b1, b2⟩
  · rw [a2, b2]; exact hr a1
  · exact absurd (hC.mpr a1) b1
  · exact absurd (hC.mp b1) a1
  · rw [a2, b2]
section ALK
variable {g : Int} {x u x2 u2 : Nat → Int → Int} {v v' : Int}
theorem al_begin {w : Int} (hT : TN g x u) (hI : IX x) (hJ : IX u) (h : OU (1 ≤ w ∧ w ≤ 10) v (x 0 1) x2 (x_begin x w) x) (h' : OU (1 ≤ w ∧ w ≤ 10) v' (u 0 1) u2 (x_begin u w) u) : v' = v ∧ TN g x2 u2 ∧ IX x2 ∧ IX u2 :=
  OU_tn h h' hT hI hJ Iff.rfl (fun _ => congrFun hT.1 1) (fun _ => tn_begin hT) (fun c => ix_begin hI c) (fun c => ix_begin hJ c)
theorem al_price {j n : Int} (hT : TN g x u) (hI : IX x) (hJ : IX u) (h : OU (((0 ≤ j ∧ j < 5) ∧ 0 ≤ n ∧ n ≤ 1000) ∧ ((j ≤ 0 ∨ n ≤ x 1 (j - 1)) ∧ (4 ≤ j ∨ x 1 (j + 1) ≤ n))) v (x 1 j) x2 (up x 1 j n) x) (h' : OU (((0 ≤ j ∧ j < 5) ∧ 0 ≤ n ∧ n ≤ 1000) ∧ ((j ≤ 0 ∨ n ≤ u 1 (j - 1)) ∧ (4 ≤ j ∨ u 1 (j + 1) ≤ n))) v' (u 1 j) u2 (up u 1 j n) u) : v' = v ∧ TN g x2 u2 ∧ IX x2 ∧ IX u2 :=
  OU_tn h h' hT hI hJ (by rw [hT.2.1]) (fun _ => congrFun hT.2.1 j) (fun _ => tn_row1 hT) (fun c => ix_setPrice hI c.1.2) (fun c => ix_setPrice hJ c.1.2)
theorem al_demand {i t j n : Int} (ht : t = (i + g) % 3) (hi : 0 ≤ i ∧ i < 3) (hT : TN g x u) (hI : IX x) (hJ : IX u) (h : OU ((0 ≤ i ∧ i < 3) ∧ (0 ≤ j ∧ j < 5) ∧ 0 ≤ n ∧ n ≤ 30) v (x 2 (5 * i + j)) x2 (up x 2 (5 * i + j) n) x) (h' : OU ((0 ≤ t ∧ t < 3) ∧ (0 ≤ j ∧ j < 5) ∧ 0 ≤ n ∧ n ≤ 30) v' (u 2 (5 * t + j)) u2 (up u 2 (5 * t + j) n) u) : v' = v ∧ TN g x2 u2 ∧ IX x2 ∧ IX u2 := by
  subst ht
  exact OU_tn h h' hT hI hJ ⟨fun c => ⟨hi, c.2⟩, fun c => ⟨tn_in, c.2⟩⟩ (fun c => hT.2.2.1 i j hi c.2.1.1 c.2.1.2) (fun c => tn_row2 hT hi c.2.1) (fun c => ix_setDemand hI c.2.2) (fun c => ix_setDemand hJ c.2.2)
theorem al_put {i t j n : Int} (ht : t = (i + g) % 3) (hi : 0 ≤ i ∧ i < 3) (hT : TN g x u) (hI : IX x) (hJ : IX u) (h : OU (((0 ≤ i ∧ i < 3) ∧ (0 ≤ j ∧ j < 3) ∧ 1 ≤ n ∧ n ≤ 40) ∧ (whl (fun z : Int => x 3 (3 * i + z)) + n ≤ 60)) v (x 3 (3 * i + j) + n) x2 (x_put x i j n) x) (h' : OU (((0 ≤ t ∧ t < 3) ∧ (0 ≤ j ∧ j < 3) ∧ 1 ≤ n ∧ n ≤ 40) ∧ (whl (fun z : Int => u 3 (3 * t + z)) + n ≤ 60)) v' (u 3 (3 * t + j) + n) u2 (x_put u t j n) u) : v' = v ∧ TN g x2 u2 ∧ IX x2 ∧ IX u2 := by
  subst ht
  have hw : whl (fun z : Int => u 3 (3 * ((i + g) % 3) + z)) = whl (fun z : Int => x 3 (3 * i + z)) := tn_wh hT hi
  exact OU_tn h h' hT hI hJ ⟨fun c => ⟨⟨hi, c.1.2⟩, by rw [← hw]; exact c.2⟩, fun c => ⟨⟨tn_in, c.1.2⟩, by rw [hw]; exact c.2⟩⟩ (fun c => by rw [hT.2.2.2.1 i j hi c.1.2.1.1 c.1.2.1.2]) (fun c => tn_put hT hi c.1.2.1) (fun c => ix_put hI c.1 c.2) (fun c => ix_put hJ c.1 c.2)
theorem al_mark {i t j : Int} (ht : t = (i + g) % 3) (hi : 0 ≤ i ∧ i < 3) (hT : TN g x u) (hI : IX x) (hJ : IX u) (h : OU (((0 ≤ i ∧ i < 3) ∧ 0 ≤ j ∧ j < 5) ∧ (x 0 1 < x 0 0 ∧ x 4 i < j ∧ wtv (x 5 i) (x 0 2) (x 0 1) ≤ 0)) v (x 1 j) x2 (x_mark x i j) x) (h' : OU (((0 ≤ t ∧ t < 3) ∧ 0 ≤ j ∧ j < 5) ∧ (u 0 1 < u 0 0 ∧ u 4 t < j ∧ wtv (u 5 t) (u 0 2) (u 0 1) ≤ 0)) v' (u 1 j) u2 (x_mark u t j) u) : v' = v ∧ TN g x2 u2 ∧ IX x2 ∧ IX u2 := by
  subst ht
  exact OU_tn h h' hT hI hJ ⟨fun c => ⟨⟨hi, c.1.2⟩, by
    have c2 := c.2
    rw [hT.1, hT.2.2.2.2.1 i hi, hT.2.2.2.2.2.1 i hi] at c2
    exact c2⟩, fun c => ⟨⟨tn_in, c.1.2⟩, by
    rw [hT.1, hT.2.2.2.2.1 i hi, hT.2.2.2.2.2.1 i hi]
    exact c.2⟩⟩ (fun c => congrFun hT.2.1 j) (fun c => tn_mark hT hi) (fun c => ix_mark hI c.1) (fun c => ix_mark hJ c.1)
theorem al_move {i t j t2 z n : Int} (ht : t = (i + g) % 3) (ht2 : t2 = (j + g) % 3) (hi : 0 ≤ i ∧ i < 3) (hj : 0 ≤ j ∧ j < 3) (hT : TN g x u) (hI : IX x) (hJ : IX u) (h : OU (((0 ≤ i ∧ i < 3) ∧ (0 ≤ j ∧ j < 3) ∧ (0 ≤ z ∧ z < 3) ∧ (1 ≤ n ∧ n ≤ 40) ∧ i ≠ j) ∧ (x 0 1 < x 0 0 ∧ n ≤ x 3 (3 * i + z) ∧ whl (fun z : Int => x 3 (3 * j + z)) + n ≤ 60)) v (n * x 0 4) x2 (x_move x i j z n) x) (h' : OU (((0 ≤ t ∧ t < 3) ∧ (0 ≤ t2 ∧ t2 < 3) ∧ (0 ≤ z ∧ z < 3) ∧ (1 ≤ n ∧ n ≤ 40) ∧ t ≠ t2) ∧ (u 0 1 < u 0 0 ∧ n ≤ u 3 (3 * t + z) ∧ whl (fun z : Int => u 3 (3 * t2 + z)) + n ≤ 60)) v' (n * u 0 4) u2 (x_move u t t2 z n) u) : v' = v ∧ TN g x2 u2 ∧ IX x2 ∧ IX u2 := by
  subst ht
  subst ht2
  have hw : whl (fun z : Int => u 3 (3 * ((j + g) % 3) + z)) = whl (fun z : Int => x 3 (3 * j + z)) := tn_wh hT hj
  exact OU_tn h h' hT hI hJ ⟨fun c => ⟨⟨hi, hj, c.1.2.2.1, c.1.2.2.2.1, fun q => c.1.2.2.2.2 (by rw [q])⟩, by
    have c2 := c.2
    rw [hT.1, hT.2.2.2.1 i z hi c.1.2.2.1.1 c.1.2.2.1.2, hw] at c2
    exact c2⟩, fun c => ⟨⟨tn_in, tn_in, c.1.2.2.1, c.1.2.2.2.1, fun q => c.1.2.2.2.2 (by omega)⟩, by
    rw [hT.1, hT.2.2.2.1 i z hi c.1.2.2.1.1 c.1.2.2.1.2, hw]
    exact c.2⟩⟩ (fun c => by rw [hT.1]) (fun c => tn_move hT hi hj c.1.2.2.1) (fun c => ix_move hI c.1 c.2) (fun c => ix_move hJ c.1 c.2)
theorem al_run (hg : g = 1 ∨ g = 2) (hT : TN g x u) (hI : IX x) (hJ : IX u) (h : OU (x 0 1 < x 0 0) v (tkx x 0 + tkx x 1 + tkx x 2) x2 (x_run x) x) (h' : OU (u 0 1 < u 0 0) v' (tkx u 0 + tkx u 1 + tkx u 2) u2 (x_run u) u) : v' = v ∧ TN g x2 u2 ∧ IX x2 ∧ IX u2 :=
  OU_tn h h' hT hI hJ (by rw [hT.1]) (fun _ => tn_sum hT hI hg) (fun _ => tn_run hT hI hg) (fun c => ix_run hI c) (fun c => ix_run hJ c)
/-! what is told of a store -/
theorem ao_stock {i t j : Int} (ht : t = (i + g) % 3) (hi : 0 ≤ i ∧ i < 3) (hT : TN g x u) (h : OV ((0 ≤ i ∧ i < 3) ∧ 0 ≤ j ∧ j < 3) v (x 3 (3 * i + j))) (h' : OV ((0 ≤ t ∧ t < 3) ∧ 0 ≤ j ∧ j < 3) v' (u 3 (3 * t + j))) : v' = v := by
  subst ht
  exact OV_eq h h' ⟨fun c => ⟨hi, c.2⟩, fun c => ⟨tn_in, c.2⟩⟩ (fun c => hT.2.2.2.1 i j hi c.2.1 c.2.2)
theorem ao_would {i t j : Int} (ht : t = (i + g) % 3) (hi : 0 ≤ i ∧ i < 3) (hT : TN g x u) (h : OV ((0 ≤ i ∧ i < 3) ∧ 0 ≤ j ∧ j < 5) v (slv (x 2 (5 * i + j)) (fun z : Int => x 3 (3 * i + z)))) (h' : OV ((0 ≤ t ∧ t < 3) ∧ 0 ≤ j ∧ j < 5) v' (slv (u 2 (5 * t + j)) (fun z : Int => u 3 (3 * t + z)))) : v' = v := by
  subst ht
  exact OV_eq h h' ⟨fun c => ⟨hi, c.2⟩, fun c => ⟨tn_in, c.2⟩⟩ (fun c => by rw [hT.2.2.1 i j hi c.2.1 c.2.2]; exact slv_congr (tn_sk hT hi))
theorem ao_step {i t : Int} (ht : t = (i + g) % 3) (hi : 0 ≤ i ∧ i < 3) (hT : TN g x u) (h : OV (0 ≤ i ∧ i < 3) v (x 4 i)) (h' : OV (0 ≤ t ∧ t < 3) v' (u 4 t)) : v' = v := by
  subst ht
  exact OV_eq h h' ⟨fun c => hi, fun c => tn_in⟩ (fun c => hT.2.2.2.2.1 i hi)
theorem ao_wait {i t : Int} (ht : t = (i + g) % 3) (hi : 0 ≤ i ∧ i < 3) (hT : TN g x u) (h : OV (0 ≤ i ∧ i < 3) v (wtv (x 5 i) (x 0 2) (x 0 1))) (h' : OV (0 ≤ t ∧ t < 3) v' (wtv (u 5 t) (u 0 2) (u 0 1))) : v' = v := by
  subst ht
  exact OV_eq h h' ⟨fun c => hi, fun c => tn_in⟩ (fun c => tn_wt hT hi)
theorem ao_sold {i t : Int} (ht : t = (i + g) % 3) (hi : 0 ≤ i ∧ i < 3) (hT : TN g x u) (h : OV (0 ≤ i ∧ i < 3) v (x 6 i)) (h' : OV (0 ≤ t ∧ t < 3) v' (u 6 t)) : v' = v := by
  subst ht
  exact OV_eq h h' ⟨fun c => hi, fun c => tn_in⟩ (fun c => hT.2.2.2.2.2.2 i hi)
theorem ao_best {i t : Int} (ht : t = (i + g) % 3) (hi : 0 ≤ i ∧ i < 3) (hT : TN g x u) (hI : IX x) (h : OV (0 ≤ i ∧ i < 3) v (vx_best x i 60)) (h' : OV (0 ≤ t ∧ t < 3) v' (vx_best u t 60)) : v' = v := by
  subst ht
  exact OV_eq h h' ⟨fun c => hi, fun c => tn_in⟩ (fun c => tn_best hT hI hi)
theorem ao_plan {i t k : Int} (ht : t = (i + g) % 3) (hi : 0 ≤ i ∧ i < 3) (hT : TN g x u) (hI : IX x) (h : OV ((0 ≤ i ∧ i < 3) ∧ x 0 1 ≤ k ∧ k < x 0 0) v (vx_plan x i k)) (h' : OV ((0 ≤ t ∧ t < 3) ∧ u 0 1 ≤ k ∧ k < u 0 0) v' (vx_plan u t k)) : v' = v := by
  subst ht
  rw [hT.1] at h'
  exact OV_eq h h' ⟨fun c => ⟨hi, c.2⟩, fun c => ⟨tn_in, c.2⟩⟩ (fun c => tn_plan hT hI hi c.2.1 c.2.2)
theorem ao_leave {i t n : Int} (ht : t = (i + g) % 3) (hi : 0 ≤ i ∧ i < 3) (hT : TN g x u) (hI : IX x) (h : OV ((0 ≤ i ∧ i < 3) ∧ 0 ≤ n ∧ n ≤ 60) v (vx_best x i n)) (h' : OV ((0 ≤ t ∧ t < 3) ∧ 0 ≤ n ∧ n ≤ 60) v' (vx_best u t n)) : v' = v := by
  subst ht
  exact OV_eq h h' ⟨fun c => ⟨hi, c.2⟩, fun c => ⟨tn_in, c.2⟩⟩ (fun c => tn_best hT hI hi)
end ALK
