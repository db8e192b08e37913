theorem ce_q {D : va_G} {cl : List vw_C} {p : Nat} {cA : ClassId} {n : Nat} {f g : Nat → Option Nat} (h : ∀ j : Nat, j < n → f j = g j) : ce_eq D cl (p, .inl (cA, n, .inr (.inr (.inr (.inr f))))) (p, .inl (cA, n, .inr (.inr (.inr (.inr g))))) := ⟨rfl, fun H h1 => by
  have h2 : H[p]? = some (vp_cell cA (n, .inr (.inr (.inr (.inr f))))) := h1
  show H[p]? = some (vp_cell cA (n, .inr (.inr (.inr (.inr g)))))
  rw [h2]
  simp only [vp_cell_q, arrV]
  congr 2
  refine congrArg _ ?_
  funext j
  exact congrArg va_rf (h j.val j.isLt)⟩
/-- the addresses of a new planner's cells, of a new reference's -/
def aF (h sa sp so oa op od ow ol s0 s1 s2 d0 d1 d2 k0 k1 k2 : Nat) : Nat → Nat := fun k => match k with
  | 0 => h | 1 => sa | 2 => sp | 3 => so | 4 => oa | 5 => op | 6 => od | 7 => ow | 8 => ol | 9 => s0 | 10 => s1 | 11 => s2 | 12 => d0 | 13 => d1 | 14 => d2 | 15 => k0 | 16 => k1 | _ => k2
def bF (h r1 r2 r3 r4 r5 r6 r7 : Nat) : Nat → Nat := fun k => match k with
  | 0 => h | 1 => r1 | 2 => r2 | 3 => r3 | 4 => r4 | 5 => r5 | 6 => r6 | _ => r7

set_option maxHeartbeats 4000000 in
set_option maxRecDepth 100000 in
/-- THE LAW'S LOOP: at its head both stand alike -/
theorem law_loop {p : Program} {l : Launch} {e : Env} {s : State} {m : MethodId} {below : List Frame} {meth : Method} {c : Code} (hst : l.stackTraces = false) {D : va_G} {cI cS cJ : ClassId} {scr L : Nat} {xs : Nat → Int32} (hC : LC p s m meth c scr L xs D cI cS cJ) (hL : L ≤ 2560) {a b : Nat → Nat} {qo : Nat} :
    ∀ (n k : Nat), L + 5 < 5 * k + n → 5 * k ≤ L + 4 → ∀ (x y : Nat → Int → Int) (th : Int) (wt : Int → Int) (o : Nat → Int64) (H : Heap) (locs : List Loc) (cells slots : Nat), IX x → cells ≤ 30 + 6 * k → slots ≤ 20000 + 36 * k → va_P D vwCl (CW cI cS a x y ++ MW cI b x th wt ++ [(qo, .inl (cJ, 1, .inr (.inl o)))]) H → va_D (fun q : Nat => s.heap.size ≤ q) (CW cI cS a x y ++ MW cI b x th wt ++ [(qo, .inl (cJ, 1, .inr (.inl o)))]) → va_S (fun q : Nat => s.heap.size ≤ q) s.heap H locs → ∀ (ls : Array Slot), lv_has ls 7 [(4, iv ((5 * k : Nat) : Int)), (3, .ref qo), (2, .ref (b 0)), (1, .ref (a 0)), (0, .ref scr)] → W p l e room_1 s m #[Value.ref scr] below meth c H locs cells slots (lw_Z below #[Value.ref scr] s) (F0 m 23 ls []) := by
  have hC9 := hC
  obtain ⟨hx, hb, hr, hml, hown, hts, hX, hbl, hlocks, hE, hK, hZ, -⟩ := hC
  have hA : ∀ q : Nat, s.heap.size ≤ q → (fun q : Nat => s.heap.size ≤ q) q := fun _ h => h
  have hbA : ¬ (fun q : Nat => s.heap.size ≤ q) scr := Nat.not_le.mpr hbl
  intro n
  induction n with
  | zero =>
    intro k h1 h2
    exact absurd h1 (by omega)
  | succ n ih =>
    intro k hn hk x y th wt o H locs cells slots hI hc hs hP hD hS ls hl
    have hi9 : (((5 * k : Nat) : Int)) = 5 * (k : Int) := by omega
    have tail : ∀ (x2 y2 : Nat → Int → Int) (th2 : Int) (wt2 : Int → Int) (o2 : Nat → Int64) (H1 : Heap) (locs1 : List Loc) (ls1 : Array Slot) (c1 n1 : Nat), 5 * k + 5 ≤ L → c1 ≤ 30 + 6 * (k + 1) → n1 ≤ 20000 + 36 * (k + 1) → IX x2 → va_P D vwCl (CW cI cS a x2 y2 ++ MW cI b x2 th2 wt2 ++ [(qo, .inl (cJ, 1, .inr (.inl o2)))]) H1 → va_D (fun q : Nat => s.heap.size ≤ q) (CW cI cS a x2 y2 ++ MW cI b x2 th2 wt2 ++ [(qo, .inl (cJ, 1, .inr (.inl o2)))]) → va_S (fun q : Nat => s.heap.size ≤ q) s.heap H1 locs1 → lv_has ls1 7 [(4, iv ((5 * k : Nat) : Int)), (3, .ref qo), (2, .ref (b 0)), (1, .ref (a 0)), (0, .ref scr)] → W p l e room_1 s m #[Value.ref scr] below meth c H1 locs1 c1 n1 (lw_Z below #[Value.ref scr] s) (F0 m 1254 ls1 []) := by
      intro x2 y2 th2 wt2 o2 H1 locs1 ls1 c1 n1 hkL hc1 hn1 hI2 hP1 hD1 hS1 hl1
      refine i_iinc (n := 5) (lv' := [(4, iv (((5 * k : Nat) : Int) + 5)), (3, .ref qo), (2, .ref (b 0)), (1, .ref (a 0)), (0, .ref scr)]) hx hb dL_law_1254 hl1 (k := 0) rfl (by decide) rfl (fun ls hl => ?_)
      refine lv_goto (tgt := 23) hx hb dL_law_1257 (by decide) ?_
      rw [show (((5 * k : Nat) : Int) + 5) = ((5 * (k + 1) : Nat) : Int) by omega] at hl
      exact ih (k + 1) (by omega) (by omega) x2 y2 th2 wt2 o2 H1 locs1 c1 n1 hI2 hc1 hn1 hP1 hD1 hS1 ls hl
    refine lv_iload hx hb dL_law_23 (lv_at hl 0 rfl) ?_
    refine lv_aload_n hx hb dL_law_25 rfl (lv_at hl 4 rfl) ?_
    refine va_slen hx hb hX hbl hbA hS dL_law_26 ?_
    refine i_eqi (y := zI (L : Int)) (show Int32.ofNat L = Int32.ofInt (L : Int) from Int32.toInt_inj.mp (by rw [Int32.toInt_ofNat_of_lt (by omega), Int32.toInt_ofInt_of_le (by omega) (by omega)])) ?_
    refine lv_iconst (v := zI 5) hx hb dL_law_27 rfl ?_
    refine i_isub hx hb dL_law_28 ?_
    refine i_icmp_gt (tgt := 1260) hx hb ⟨by omega, by omega⟩ ⟨by omega, by omega⟩ dL_law_29 (by decide) (fun c1 => ?_) (fun c1 => ?_)
    · refine lv_iconst (v := 1) hx hb dL_law_1260 (by decide) ?_
      refine va_forget (fun q hq => hS.2.2 q hq) ?_
      refine W.widen (k := 601024) (n := 7293033) (by omega) (by omega) ?_
      exact lw_ret hx hb hr hlocks dL_law_1261
    · have hkL : 5 * k + 5 ≤ L := by omega
      refine lv_aload_n hx hb dL_law_32 rfl (lv_at hl 4 rfl) ?_
      refine lv_iload hx hb dL_law_33 (lv_at hl 0 rfl) ?_
      refine va_sld hx hb hX hbl hbA hS (zI_in (by omega) (by omega) (by omega)) dL_law_35 ?_
      refine lv_bipush (v := zI 31) hx hb dL_law_36 (by decide) ?_
      refine lv_iand hx hb dL_law_38 ?_
      generalize hq : (xs (zI ((5 * k : Nat) : Int)).toNatClampNeg) = q0
      obtain ⟨t, ht⟩ : ∃ t : Int32, q0 &&& zI 31 = t := ⟨_, rfl⟩
      refine i_eqi (y := t) ht ?_
      have go : ∀ j : Nat, xs (((5 * k : Nat) : Int) + (j : Int)).toNat = zI (xs (((5 * k : Nat) : Int) + (j : Int)).toNat).toInt := fun j => (zI_of _).symm
      rcases (show t.toInt < 0 ∨ 18 < t.toInt ∨ t.toInt = 0 ∨ t.toInt = 1 ∨ t.toInt = 2 ∨ t.toInt = 3 ∨ t.toInt = 4 ∨ t.toInt = 5 ∨ t.toInt = 6 ∨ t.toInt = 7 ∨ t.toInt = 8 ∨ t.toInt = 9 ∨ t.toInt = 10 ∨ t.toInt = 11 ∨ t.toInt = 12 ∨ t.toInt = 13 ∨ t.toInt = 14 ∨ t.toInt = 15 ∨ t.toInt = 16 ∨ t.toInt = 17 ∨ t.toInt = 18 by omega) with h | h | h | h | h | h | h | h | h | h | h | h | h | h | h | h | h | h | h | h | h
      · exact lv_tableOut (tgt := 1254) hx hb dL_law_39 (Or.inl h) (by decide) (tail x y th wt o H locs ls cells slots hkL (by omega) (by omega) hI hP hD hS hl)
      · exact lv_tableOut (tgt := 1254) hx hb dL_law_39 (Or.inr h) (by decide) (tail x y th wt o H locs ls cells slots hkL (by omega) (by omega) hI hP hD hS hl)
      · refine lv_tableIn (tgt := 128) (off := 89) hx hb dL_law_39 (by rw [h]; decide) (by rw [h]; decide) (by rw [h]; rfl) (by decide) ?_
        exact lw_case_0 hst hC9 hA hbA hZ (i := ((5 * k : Nat) : Int)) ⟨by omega, by omega⟩ hL (go 1) (go 2) (go 3) (go 4) (zB_of _) (zB_of _) (zB_of _) (zB_of _) hI (by omega) (by omega) hP hD hS hl (fun x2 y2 th2 wt2 o2 H1 locs1 ls1 g1 g2 g3 g4 g5 => tail x2 y2 th2 wt2 o2 H1 locs1 ls1 _ _ hkL (by omega) (by omega) g1 g2 g3 g4 g5)
      · refine lv_tableIn (tgt := 184) (off := 145) hx hb dL_law_39 (by rw [h]; decide) (by rw [h]; decide) (by rw [h]; rfl) (by decide) ?_
        exact lw_case_1 hst hC9 hA hbA hZ (i := ((5 * k : Nat) : Int)) ⟨by omega, by omega⟩ hL (go 1) (go 2) (go 3) (go 4) (zB_of _) (zB_of _) (zB_of _) (zB_of _) hI (by omega) (by omega) hP hD hS hl (fun x2 y2 th2 wt2 o2 H1 locs1 ls1 g1 g2 g3 g4 g5 => tail x2 y2 th2 wt2 o2 H1 locs1 ls1 _ _ hkL (by omega) (by omega) g1 g2 g3 g4 g5)
      · refine lv_tableIn (tgt := 252) (off := 213) hx hb dL_law_39 (by rw [h]; decide) (by rw [h]; decide) (by rw [h]; rfl) (by decide) ?_
        exact lw_case_2 hst hC9 hA hbA hZ (i := ((5 * k : Nat) : Int)) ⟨by omega, by omega⟩ hL (go 1) (go 2) (go 3) (go 4) (zB_of _) (zB_of _) (zB_of _) (zB_of _) hI (by omega) (by omega) hP hD hS hl (fun x2 y2 th2 wt2 o2 H1 locs1 ls1 g1 g2 g3 g4 g5 => tail x2 y2 th2 wt2 o2 H1 locs1 ls1 _ _ hkL (by omega) (by omega) g1 g2 g3 g4 g5)
      · refine lv_tableIn (tgt := 332) (off := 293) hx hb dL_law_39 (by rw [h]; decide) (by rw [h]; decide) (by rw [h]; rfl) (by decide) ?_
        exact lw_case_3 hst hC9 hA hbA hZ (i := ((5 * k : Nat) : Int)) ⟨by omega, by omega⟩ hL (go 1) (go 2) (go 3) (go 4) (zB_of _) (zB_of _) (zB_of _) (zB_of _) hI (by omega) (by omega) hP hD hS hl (fun x2 y2 th2 wt2 o2 H1 locs1 ls1 g1 g2 g3 g4 g5 => tail x2 y2 th2 wt2 o2 H1 locs1 ls1 _ _ hkL (by omega) (by omega) g1 g2 g3 g4 g5)
      · refine lv_tableIn (tgt := 392) (off := 353) hx hb dL_law_39 (by rw [h]; decide) (by rw [h]; decide) (by rw [h]; rfl) (by decide) ?_
        exact lw_case_4 hst hC9 hA hbA hZ (i := ((5 * k : Nat) : Int)) ⟨by omega, by omega⟩ hL (go 1) (go 2) (go 3) (go 4) (zB_of _) (zB_of _) (zB_of _) (zB_of _) hI (by omega) (by omega) hP hD hS hl (fun x2 y2 th2 wt2 o2 H1 locs1 ls1 g1 g2 g3 g4 g5 => tail x2 y2 th2 wt2 o2 H1 locs1 ls1 _ _ hkL (by omega) (by omega) g1 g2 g3 g4 g5)
      · refine lv_tableIn (tgt := 472) (off := 433) hx hb dL_law_39 (by rw [h]; decide) (by rw [h]; decide) (by rw [h]; rfl) (by decide) ?_
        exact lw_case_5 hst hC9 hA hbA hZ (i := ((5 * k : Nat) : Int)) ⟨by omega, by omega⟩ hL (go 1) (go 2) (go 3) (go 4) (zB_of _) (zB_of _) (zB_of _) (zB_of _) hI (by omega) (by omega) hP hD hS hl (fun x2 y2 th2 wt2 o2 H1 locs1 ls1 g1 g2 g3 g4 g5 => tail x2 y2 th2 wt2 o2 H1 locs1 ls1 _ _ hkL (by omega) (by omega) g1 g2 g3 g4 g5)
      · refine lv_tableIn (tgt := 540) (off := 501) hx hb dL_law_39 (by rw [h]; decide) (by rw [h]; decide) (by rw [h]; rfl) (by decide) ?_
        exact lw_case_6 hst hC9 hA hbA hZ (i := ((5 * k : Nat) : Int)) ⟨by omega, by omega⟩ hL (go 1) (go 2) (go 3) (go 4) (zB_of _) (zB_of _) (zB_of _) (zB_of _) hI (by omega) (by omega) hP hD hS hl (fun x2 y2 th2 wt2 o2 H1 locs1 ls1 g1 g2 g3 g4 g5 => tail x2 y2 th2 wt2 o2 H1 locs1 ls1 _ _ hkL (by omega) (by omega) g1 g2 g3 g4 g5)
      · refine lv_tableIn (tgt := 632) (off := 593) hx hb dL_law_39 (by rw [h]; decide) (by rw [h]; decide) (by rw [h]; rfl) (by decide) ?_
        exact lw_case_7 hst hC9 hA hbA hZ (i := ((5 * k : Nat) : Int)) ⟨by omega, by omega⟩ hL (go 1) (go 2) (go 3) (go 4) (zB_of _) (zB_of _) (zB_of _) (zB_of _) hI (by omega) (by omega) hP hD hS hl (fun x2 y2 th2 wt2 o2 H1 locs1 ls1 g1 g2 g3 g4 g5 => tail x2 y2 th2 wt2 o2 H1 locs1 ls1 _ _ hkL (by omega) (by omega) g1 g2 g3 g4 g5)
      · refine lv_tableIn (tgt := 676) (off := 637) hx hb dL_law_39 (by rw [h]; decide) (by rw [h]; decide) (by rw [h]; rfl) (by decide) ?_
        exact lw_case_8 hst hC9 hA hbA hZ (i := ((5 * k : Nat) : Int)) ⟨by omega, by omega⟩ hL (go 1) (go 2) (go 3) (go 4) (zB_of _) (zB_of _) (zB_of _) (zB_of _) hI (by omega) (by omega) hP hD hS hl (fun x2 y2 th2 wt2 o2 H1 locs1 ls1 g1 g2 g3 g4 g5 => tail x2 y2 th2 wt2 o2 H1 locs1 ls1 _ _ hkL (by omega) (by omega) g1 g2 g3 g4 g5)
      · refine lv_tableIn (tgt := 689) (off := 650) hx hb dL_law_39 (by rw [h]; decide) (by rw [h]; decide) (by rw [h]; rfl) (by decide) ?_
        exact lw_case_9 hst hC9 hA hbA hZ (i := ((5 * k : Nat) : Int)) ⟨by omega, by omega⟩ hL (go 1) (go 2) (go 3) (go 4) (zB_of _) (zB_of _) (zB_of _) (zB_of _) hI (by omega) (by omega) hP hD hS hl (fun x2 y2 th2 wt2 o2 H1 locs1 ls1 g1 g2 g3 g4 g5 => tail x2 y2 th2 wt2 o2 H1 locs1 ls1 _ _ hkL (by omega) (by omega) g1 g2 g3 g4 g5)
      · refine lv_tableIn (tgt := 757) (off := 718) hx hb dL_law_39 (by rw [h]; decide) (by rw [h]; decide) (by rw [h]; rfl) (by decide) ?_
        exact lw_case_10 hst hC9 hA hbA hZ (i := ((5 * k : Nat) : Int)) ⟨by omega, by omega⟩ hL (go 1) (go 2) (go 3) (go 4) (zB_of _) (zB_of _) (zB_of _) (zB_of _) hI (by omega) (by omega) hP hD hS hl (fun x2 y2 th2 wt2 o2 H1 locs1 ls1 g1 g2 g3 g4 g5 => tail x2 y2 th2 wt2 o2 H1 locs1 ls1 _ _ hkL (by omega) (by omega) g1 g2 g3 g4 g5)
      · refine lv_tableIn (tgt := 813) (off := 774) hx hb dL_law_39 (by rw [h]; decide) (by rw [h]; decide) (by rw [h]; rfl) (by decide) ?_
        exact lw_case_11 hst hC9 hA hbA hZ (i := ((5 * k : Nat) : Int)) ⟨by omega, by omega⟩ hL (go 1) (go 2) (go 3) (go 4) (zB_of _) (zB_of _) (zB_of _) (zB_of _) hI (by omega) (by omega) hP hD hS hl (fun x2 y2 th2 wt2 o2 H1 locs1 ls1 g1 g2 g3 g4 g5 => tail x2 y2 th2 wt2 o2 H1 locs1 ls1 _ _ hkL (by omega) (by omega) g1 g2 g3 g4 g5)
      · refine lv_tableIn (tgt := 869) (off := 830) hx hb dL_law_39 (by rw [h]; decide) (by rw [h]; decide) (by rw [h]; rfl) (by decide) ?_
        exact lw_case_12 hst hC9 hA hbA hZ (i := ((5 * k : Nat) : Int)) ⟨by omega, by omega⟩ hL (go 1) (go 2) (go 3) (go 4) (zB_of _) (zB_of _) (zB_of _) (zB_of _) hI (by omega) (by omega) hP hD hS hl (fun x2 y2 th2 wt2 o2 H1 locs1 ls1 g1 g2 g3 g4 g5 => tail x2 y2 th2 wt2 o2 H1 locs1 ls1 _ _ hkL (by omega) (by omega) g1 g2 g3 g4 g5)
      · refine lv_tableIn (tgt := 925) (off := 886) hx hb dL_law_39 (by rw [h]; decide) (by rw [h]; decide) (by rw [h]; rfl) (by decide) ?_
        exact lw_case_13 hst hC9 hA hbA hZ (i := ((5 * k : Nat) : Int)) ⟨by omega, by omega⟩ hL (go 1) (go 2) (go 3) (go 4) (zB_of _) (zB_of _) (zB_of _) (zB_of _) hI (by omega) (by omega) hP hD hS hl (fun x2 y2 th2 wt2 o2 H1 locs1 ls1 g1 g2 g3 g4 g5 => tail x2 y2 th2 wt2 o2 H1 locs1 ls1 _ _ hkL (by omega) (by omega) g1 g2 g3 g4 g5)
      · refine lv_tableIn (tgt := 938) (off := 899) hx hb dL_law_39 (by rw [h]; decide) (by rw [h]; decide) (by rw [h]; rfl) (by decide) ?_
        exact lw_case_14 hst hC9 hA hbA hZ (i := ((5 * k : Nat) : Int)) ⟨by omega, by omega⟩ hL (go 1) (go 2) (go 3) (go 4) (zB_of _) (zB_of _) (zB_of _) (zB_of _) hI (by omega) (by omega) hP hD hS hl (fun x2 y2 th2 wt2 o2 H1 locs1 ls1 g1 g2 g3 g4 g5 => tail x2 y2 th2 wt2 o2 H1 locs1 ls1 _ _ hkL (by omega) (by omega) g1 g2 g3 g4 g5)
      · refine lv_tableIn (tgt := 1006) (off := 967) hx hb dL_law_39 (by rw [h]; decide) (by rw [h]; decide) (by rw [h]; rfl) (by decide) ?_
        exact lw_case_15 hst hC9 hA hbA hZ (i := ((5 * k : Nat) : Int)) ⟨by omega, by omega⟩ hL (go 1) (go 2) (go 3) (go 4) (zB_of _) (zB_of _) (zB_of _) (zB_of _) hI (by omega) (by omega) hP hD hS hl (fun x2 y2 th2 wt2 o2 H1 locs1 ls1 g1 g2 g3 g4 g5 => tail x2 y2 th2 wt2 o2 H1 locs1 ls1 _ _ hkL (by omega) (by omega) g1 g2 g3 g4 g5)
      · refine lv_tableIn (tgt := 1062) (off := 1023) hx hb dL_law_39 (by rw [h]; decide) (by rw [h]; decide) (by rw [h]; rfl) (by decide) ?_
        exact lw_case_16 hst hC9 hA hbA hZ (i := ((5 * k : Nat) : Int)) ⟨by omega, by omega⟩ hL (go 1) (go 2) (go 3) (go 4) (zB_of _) (zB_of _) (zB_of _) (zB_of _) hI (by omega) (by omega) hP hD hS hl (fun x2 y2 th2 wt2 o2 H1 locs1 ls1 g1 g2 g3 g4 g5 => tail x2 y2 th2 wt2 o2 H1 locs1 ls1 _ _ hkL (by omega) (by omega) g1 g2 g3 g4 g5)
      · refine lv_tableIn (tgt := 1118) (off := 1079) hx hb dL_law_39 (by rw [h]; decide) (by rw [h]; decide) (by rw [h]; rfl) (by decide) ?_
        exact lw_case_17 hst hC9 hA hbA hZ (i := ((5 * k : Nat) : Int)) ⟨by omega, by omega⟩ hL (go 1) (go 2) (go 3) (go 4) (zB_of _) (zB_of _) (zB_of _) (zB_of _) hI (by omega) (by omega) hP hD hS hl (fun x2 y2 th2 wt2 o2 H1 locs1 ls1 g1 g2 g3 g4 g5 => tail x2 y2 th2 wt2 o2 H1 locs1 ls1 _ _ hkL (by omega) (by omega) g1 g2 g3 g4 g5)
      · refine lv_tableIn (tgt := 1186) (off := 1147) hx hb dL_law_39 (by rw [h]; decide) (by rw [h]; decide) (by rw [h]; rfl) (by decide) ?_
        exact lw_case_18 hst hC9 hA hbA hZ (i := ((5 * k : Nat) : Int)) ⟨by omega, by omega⟩ hL (go 1) (go 2) (go 3) (go 4) (zB_of _) (zB_of _) (zB_of _) (zB_of _) hI (by omega) (by omega) hP hD hS hl (fun x2 y2 th2 wt2 o2 H1 locs1 ls1 g1 g2 g3 g4 g5 => tail x2 y2 th2 wt2 o2 H1 locs1 ls1 _ _ hkL (by omega) (by omega) g1 g2 g3 g4 g5)

set_option maxHeartbeats 4000000 in
set_option maxRecDepth 100000 in
/-- the law, from its entry -/
theorem whole_start {p : Program} {e : Env} {s : State} {m : MethodId} {below : List Frame} {meth : Method} {c : Code} (l : Launch) (hflags : l.flags = flags0) {b L : Nat} {xs : Nat → Int32} (hL : L ≤ 2560) (C0 : lw_At p s m meth c b L xs) : W p l e room_1 s m #[Value.ref b] below meth c s.heap [] 0 0 (lw_Z below #[Value.ref b] s) (entryFrame m ([Value.ref b] : List Value).toArray 7) := by
  have hst := k_hst hflags
  obtain ⟨D, cI, cS, cJ, hC⟩ := LC_of C0
  have hC9 := hC
  generalize b = scr at *
  obtain ⟨hx, hb, hr, hml, hown, hts, hX, hbl, hlocks, hE, hK, hZ, hAO⟩ := hC
  obtain ⟨A, hA9⟩ : ∃ A : Nat → Prop, A = fun q : Nat => s.heap.size ≤ q := ⟨_, rfl⟩
  have hA : ∀ q : Nat, s.heap.size ≤ q → A q := fun _ h => by rw [hA9]; exact h
  have hS : va_S A s.heap s.heap [] := va_S.rf
  have hP : va_P D vwCl [] s.heap := fun k q h => by simp at h
  have hD : va_D A [] := ⟨fun i j p q h => by simp at h, fun k q h => by simp at h⟩
  refine en_fr (as := [Value.ref scr]) (Nat.le_of_ble_eq_true rfl) (fun ls hl => ?_)
  have hl : lv_has ls 7 [(0, .ref scr)] := hl
  have inX3 := inlX3
  have inX4 := inlX4
  have w0 : (Cond.classLink RL 8 RX3).before #[Value.ref scr] s = true := hts _ (by decide +kernel)
  have w1 : (Cond.instantiable RX3 3).before #[Value.ref scr] s = true := hts _ (by decide +kernel)
  have w2 : (Cond.initialized RX3).before #[Value.ref scr] s = true := hts _ (by decide +kernel)
  have w3 : (Cond.methodLink RL 70 yX3_init).before #[Value.ref scr] s = true := hts _ (by decide +kernel)
  have w4 : (Cond.instanceMethod yX3_init).before #[Value.ref scr] s = true := hts _ (by decide +kernel)
  have w5 : (Cond.classLink RL 71 RX4).before #[Value.ref scr] s = true := hts _ (by decide +kernel)
  have w6 : (Cond.instantiable RX4 14).before #[Value.ref scr] s = true := hts _ (by decide +kernel)
  have w7 : (Cond.initialized RX4).before #[Value.ref scr] s = true := hts _ (by decide +kernel)
  have w8 : (Cond.methodLink RL 73 yX4_init).before #[Value.ref scr] s = true := hts _ (by decide +kernel)
  have w9 : (Cond.instanceMethod yX4_init).before #[Value.ref scr] s = true := hts _ (by decide +kernel)
  have w10 : (Cond.arrayClass .long).before #[Value.ref scr] s = true := hts _ (by decide +kernel)
  refine va_new (ci := 3) (fs := [.null, .null, .null]) (C := RX3) (T := TX3) (N := 3) hx hb hts inX3 tyX3 tyX3_ok hown w0 w1 w2 hK hP hD hS hA rfl (fun j hj => by rcases (show j = 0 ∨ j = 1 ∨ j = 2 by omega) with rfl | rfl | rfl <;> rfl) (Nat.le_of_ble_eq_true rfl) (Nat.le_of_ble_eq_true rfl) dL_law_0 (fun q_1 H hP hD hS => ?_)
  have hP : va_P D vwCl [(q_1, ob 3 [.null, .null, .null])] H := hP
  have hD : va_D A [(q_1, ob 3 [.null, .null, .null])] := hD
  refine lv_dup hx hb dL_law_3 rfl ?_
  refine ms_M (wc := [(q_1, ob 3 [.null, .null, .null])]) (wr := []) (va_runI (As := []) (rest := [.ref q_1]) ⟨hx, hb, hml, hown, hts⟩ ((mt_X3_init l D cI cS cJ q_1) H.size) (cwI 0 hts gL_law_X3_init rfl rfl rfl w2 w3 w4 rfl (by decide +kernel) ⟨Nat.le_of_ble_eq_true rfl, Nat.le_of_ble_eq_true rfl⟩) (pcMA_S hE hK (hP.sub (ws' := [(q_1, ob 3 [.null, .null, .null])]) [0] rfl) (hD.sub (ws' := [(q_1, ob 3 [.null, .null, .null])]) [0] (by decide) rfl) hAO) rfl rfl hl.1 rfl (lv_room (Nat.le_of_ble_eq_true rfl)) dL_law_4 ⟨Nat.le_of_ble_eq_true rfl, Nat.le_of_ble_eq_true rfl⟩) hP hD hS hA [0] [] rfl rfl (by decide) (by decide) (fun r_ w_ H locs hq_ hP hD hS => ?_)
  obtain ⟨sa_2, sp_3, so_4, oa_5, op_6, od_7, ow_8, ol_9, s0_10, d0_11, k0_12, s1_13, d1_14, k1_15, s2_16, d2_17, k2_18, rfl, rfl⟩ := hq_
  have hP : va_P D vwCl [(q_1, ob 3 [.ref sa_2, .ref so_4, .ref oa_5]), (sa_2, ob 1 [.ref sp_3, iv 8, iv 0, iv 2, iv 0, iv 0, iv 0]), (sp_3, ar cI 5 ((fun _ => 100))), (so_4, .inl (cS, 3, .inr (.inr (.inr (.inr (va_up (va_up (va_up (fun _ => none) (zI 0).toNatClampNeg (some s0_10)) (zI 1).toNatClampNeg (some s1_13)) (zI 2).toNatClampNeg (some s2_16))))))), (oa_5, ob 0 [.ref op_6, .ref od_7, .ref ow_8, .ref ol_9, iv 0, iv 0, iv 0, iv 0, iv 0, iv 0, iv 0, iv 0]), (op_6, ar cI 5 ((fun _ => 0))), (od_7, ar cI 5 ((fun _ => 0))), (ow_8, ar cI 3050 ((fun _ => 0))), (ol_9, ar cI 6 ((fun _ => 0))), (s0_10, ob 2 [.ref d0_11, .ref k0_12, iv 0, iv (-1), iv 0]), (d0_11, ar cI 5 ((fun _ => 0))), (k0_12, ar cI 3 ((fun _ => 0))), (s1_13, ob 2 [.ref d1_14, .ref k1_15, iv 0, iv (-1), iv 0]), (d1_14, ar cI 5 ((fun _ => 0))), (k1_15, ar cI 3 ((fun _ => 0))), (s2_16, ob 2 [.ref d2_17, .ref k2_18, iv 0, iv (-1), iv 0]), (d2_17, ar cI 5 ((fun _ => 0))), (k2_18, ar cI 3 ((fun _ => 0)))] H := hP
  have hD : va_D A [(q_1, ob 3 [.ref sa_2, .ref so_4, .ref oa_5]), (sa_2, ob 1 [.ref sp_3, iv 8, iv 0, iv 2, iv 0, iv 0, iv 0]), (sp_3, ar cI 5 ((fun _ => 100))), (so_4, .inl (cS, 3, .inr (.inr (.inr (.inr (va_up (va_up (va_up (fun _ => none) (zI 0).toNatClampNeg (some s0_10)) (zI 1).toNatClampNeg (some s1_13)) (zI 2).toNatClampNeg (some s2_16))))))), (oa_5, ob 0 [.ref op_6, .ref od_7, .ref ow_8, .ref ol_9, iv 0, iv 0, iv 0, iv 0, iv 0, iv 0, iv 0, iv 0]), (op_6, ar cI 5 ((fun _ => 0))), (od_7, ar cI 5 ((fun _ => 0))), (ow_8, ar cI 3050 ((fun _ => 0))), (ol_9, ar cI 6 ((fun _ => 0))), (s0_10, ob 2 [.ref d0_11, .ref k0_12, iv 0, iv (-1), iv 0]), (d0_11, ar cI 5 ((fun _ => 0))), (k0_12, ar cI 3 ((fun _ => 0))), (s1_13, ob 2 [.ref d1_14, .ref k1_15, iv 0, iv (-1), iv 0]), (d1_14, ar cI 5 ((fun _ => 0))), (k1_15, ar cI 3 ((fun _ => 0))), (s2_16, ob 2 [.ref d2_17, .ref k2_18, iv 0, iv (-1), iv 0]), (d2_17, ar cI 5 ((fun _ => 0))), (k2_18, ar cI 3 ((fun _ => 0)))] := hD
  refine lv_astore_n (lv' := [(1, .ref q_1), (0, .ref scr)]) hx hb dL_law_7 rfl hl (by decide) rfl (fun ls hl => ?_)
  refine va_new (ci := 4) (fs := [iv 0, iv 0, .null, .null, iv 0, iv 0, iv 0, .null, .null, .null, .null, iv 0, .null, iv 0]) (C := RX4) (T := TX4) (N := 14) hx hb hts inX4 tyX4 tyX4_ok hown w5 w6 w7 hK hP hD hS hA rfl (fun j hj => by rcases (show j = 0 ∨ j = 1 ∨ j = 2 ∨ j = 3 ∨ j = 4 ∨ j = 5 ∨ j = 6 ∨ j = 7 ∨ j = 8 ∨ j = 9 ∨ j = 10 ∨ j = 11 ∨ j = 12 ∨ j = 13 by omega) with rfl | rfl | rfl | rfl | rfl | rfl | rfl | rfl | rfl | rfl | rfl | rfl | rfl | rfl <;> rfl) (Nat.le_of_ble_eq_true rfl) (Nat.le_of_ble_eq_true rfl) dL_law_8 (fun q_19 H hP hD hS => ?_)
  have hP : va_P D vwCl [(q_1, ob 3 [.ref sa_2, .ref so_4, .ref oa_5]), (sa_2, ob 1 [.ref sp_3, iv 8, iv 0, iv 2, iv 0, iv 0, iv 0]), (sp_3, ar cI 5 ((fun _ => 100))), (so_4, .inl (cS, 3, .inr (.inr (.inr (.inr (va_up (va_up (va_up (fun _ => none) (zI 0).toNatClampNeg (some s0_10)) (zI 1).toNatClampNeg (some s1_13)) (zI 2).toNatClampNeg (some s2_16))))))), (oa_5, ob 0 [.ref op_6, .ref od_7, .ref ow_8, .ref ol_9, iv 0, iv 0, iv 0, iv 0, iv 0, iv 0, iv 0, iv 0]), (op_6, ar cI 5 ((fun _ => 0))), (od_7, ar cI 5 ((fun _ => 0))), (ow_8, ar cI 3050 ((fun _ => 0))), (ol_9, ar cI 6 ((fun _ => 0))), (s0_10, ob 2 [.ref d0_11, .ref k0_12, iv 0, iv (-1), iv 0]), (d0_11, ar cI 5 ((fun _ => 0))), (k0_12, ar cI 3 ((fun _ => 0))), (s1_13, ob 2 [.ref d1_14, .ref k1_15, iv 0, iv (-1), iv 0]), (d1_14, ar cI 5 ((fun _ => 0))), (k1_15, ar cI 3 ((fun _ => 0))), (s2_16, ob 2 [.ref d2_17, .ref k2_18, iv 0, iv (-1), iv 0]), (d2_17, ar cI 5 ((fun _ => 0))), (k2_18, ar cI 3 ((fun _ => 0))), (q_19, ob 4 [iv 0, iv 0, .null, .null, iv 0, iv 0, iv 0, .null, .null, .null, .null, iv 0, .null, iv 0])] H := hP
  have hD : va_D A [(q_1, ob 3 [.ref sa_2, .ref so_4, .ref oa_5]), (sa_2, ob 1 [.ref sp_3, iv 8, iv 0, iv 2, iv 0, iv 0, iv 0]), (sp_3, ar cI 5 ((fun _ => 100))), (so_4, .inl (cS, 3, .inr (.inr (.inr (.inr (va_up (va_up (va_up (fun _ => none) (zI 0).toNatClampNeg (some s0_10)) (zI 1).toNatClampNeg (some s1_13)) (zI 2).toNatClampNeg (some s2_16))))))), (oa_5, ob 0 [.ref op_6, .ref od_7, .ref ow_8, .ref ol_9, iv 0, iv 0, iv 0, iv 0, iv 0, iv 0, iv 0, iv 0]), (op_6, ar cI 5 ((fun _ => 0))), (od_7, ar cI 5 ((fun _ => 0))), (ow_8, ar cI 3050 ((fun _ => 0))), (ol_9, ar cI 6 ((fun _ => 0))), (s0_10, ob 2 [.ref d0_11, .ref k0_12, iv 0, iv (-1), iv 0]), (d0_11, ar cI 5 ((fun _ => 0))), (k0_12, ar cI 3 ((fun _ => 0))), (s1_13, ob 2 [.ref d1_14, .ref k1_15, iv 0, iv (-1), iv 0]), (d1_14, ar cI 5 ((fun _ => 0))), (k1_15, ar cI 3 ((fun _ => 0))), (s2_16, ob 2 [.ref d2_17, .ref k2_18, iv 0, iv (-1), iv 0]), (d2_17, ar cI 5 ((fun _ => 0))), (k2_18, ar cI 3 ((fun _ => 0))), (q_19, ob 4 [iv 0, iv 0, .null, .null, iv 0, iv 0, iv 0, .null, .null, .null, .null, iv 0, .null, iv 0])] := hD
  refine lv_dup hx hb dL_law_11 rfl ?_
  refine ms_M (wc := [(q_19, ob 4 [iv 0, iv 0, .null, .null, iv 0, iv 0, iv 0, .null, .null, .null, .null, iv 0, .null, iv 0])]) (wr := [(q_1, ob 3 [.ref sa_2, .ref so_4, .ref oa_5]), (sa_2, ob 1 [.ref sp_3, iv 8, iv 0, iv 2, iv 0, iv 0, iv 0]), (sp_3, ar cI 5 ((fun _ => 100))), (so_4, .inl (cS, 3, .inr (.inr (.inr (.inr (va_up (va_up (va_up (fun _ => none) (zI 0).toNatClampNeg (some s0_10)) (zI 1).toNatClampNeg (some s1_13)) (zI 2).toNatClampNeg (some s2_16))))))), (oa_5, ob 0 [.ref op_6, .ref od_7, .ref ow_8, .ref ol_9, iv 0, iv 0, iv 0, iv 0, iv 0, iv 0, iv 0, iv 0]), (op_6, ar cI 5 ((fun _ => 0))), (od_7, ar cI 5 ((fun _ => 0))), (ow_8, ar cI 3050 ((fun _ => 0))), (ol_9, ar cI 6 ((fun _ => 0))), (s0_10, ob 2 [.ref d0_11, .ref k0_12, iv 0, iv (-1), iv 0]), (d0_11, ar cI 5 ((fun _ => 0))), (k0_12, ar cI 3 ((fun _ => 0))), (s1_13, ob 2 [.ref d1_14, .ref k1_15, iv 0, iv (-1), iv 0]), (d1_14, ar cI 5 ((fun _ => 0))), (k1_15, ar cI 3 ((fun _ => 0))), (s2_16, ob 2 [.ref d2_17, .ref k2_18, iv 0, iv (-1), iv 0]), (d2_17, ar cI 5 ((fun _ => 0))), (k2_18, ar cI 3 ((fun _ => 0)))]) (va_runI (As := []) (rest := [.ref q_19]) ⟨hx, hb, hml, hown, hts⟩ ((mt_X4_init l D cI cS cJ q_19) H.size) (cwI 0 hts gL_law_X4_init rfl rfl rfl w7 w8 w9 rfl (by decide +kernel) ⟨Nat.le_of_ble_eq_true rfl, Nat.le_of_ble_eq_true rfl⟩) (pcM_S hE hK (hP.sub (ws' := [(q_19, ob 4 [iv 0, iv 0, .null, .null, iv 0, iv 0, iv 0, .null, .null, .null, .null, iv 0, .null, iv 0])]) [18] rfl) (hD.sub (ws' := [(q_19, ob 4 [iv 0, iv 0, .null, .null, iv 0, iv 0, iv 0, .null, .null, .null, .null, iv 0, .null, iv 0])]) [18] (by decide) rfl)) rfl rfl hl.1 rfl (lv_room (Nat.le_of_ble_eq_true rfl)) dL_law_12 ⟨Nat.le_of_ble_eq_true rfl, Nat.le_of_ble_eq_true rfl⟩) hP hD hS hA [18] [0, 1, 2, 3, 4, 5, 6, 7, 8, 9, 10, 11, 12, 13, 14, 15, 16, 17] rfl rfl (by decide) (by decide) (fun r_ w_ H locs hq_ hP hD hS => ?_)
  obtain ⟨r1_20, r2_21, r3_22, r4_23, r5_24, r6_25, r7_26, rfl, rfl⟩ := hq_
  have hP : va_P D vwCl [(q_1, ob 3 [.ref sa_2, .ref so_4, .ref oa_5]), (sa_2, ob 1 [.ref sp_3, iv 8, iv 0, iv 2, iv 0, iv 0, iv 0]), (sp_3, ar cI 5 ((fun _ => 100))), (so_4, .inl (cS, 3, .inr (.inr (.inr (.inr (va_up (va_up (va_up (fun _ => none) (zI 0).toNatClampNeg (some s0_10)) (zI 1).toNatClampNeg (some s1_13)) (zI 2).toNatClampNeg (some s2_16))))))), (oa_5, ob 0 [.ref op_6, .ref od_7, .ref ow_8, .ref ol_9, iv 0, iv 0, iv 0, iv 0, iv 0, iv 0, iv 0, iv 0]), (op_6, ar cI 5 ((fun _ => 0))), (od_7, ar cI 5 ((fun _ => 0))), (ow_8, ar cI 3050 ((fun _ => 0))), (ol_9, ar cI 6 ((fun _ => 0))), (s0_10, ob 2 [.ref d0_11, .ref k0_12, iv 0, iv (-1), iv 0]), (d0_11, ar cI 5 ((fun _ => 0))), (k0_12, ar cI 3 ((fun _ => 0))), (s1_13, ob 2 [.ref d1_14, .ref k1_15, iv 0, iv (-1), iv 0]), (d1_14, ar cI 5 ((fun _ => 0))), (k1_15, ar cI 3 ((fun _ => 0))), (s2_16, ob 2 [.ref d2_17, .ref k2_18, iv 0, iv (-1), iv 0]), (d2_17, ar cI 5 ((fun _ => 0))), (k2_18, ar cI 3 ((fun _ => 0))), (q_19, ob 4 [iv 8, iv 0, .ref r1_20, .ref r2_21, iv 2, iv 0, iv 0, .ref r3_22, .ref r4_23, .ref r5_24, .ref r6_25, iv 0, .ref r7_26, iv 0]), (r1_20, ar cI 5 ((fun _ => 100))), (r2_21, ar cI 15 ((fun _ => 0))), (r3_22, ar cI 9 ((fun _ => 0))), (r4_23, ar cI 3 ((fun _ => 0))), (r5_24, ar cI 3 ((fun _ => (-1)))), (r6_25, ar cI 3 ((fun _ => 0))), (r7_26, ar cI 16775 ((fun _ => 0)))] H := hP
  have hD : va_D A [(q_1, ob 3 [.ref sa_2, .ref so_4, .ref oa_5]), (sa_2, ob 1 [.ref sp_3, iv 8, iv 0, iv 2, iv 0, iv 0, iv 0]), (sp_3, ar cI 5 ((fun _ => 100))), (so_4, .inl (cS, 3, .inr (.inr (.inr (.inr (va_up (va_up (va_up (fun _ => none) (zI 0).toNatClampNeg (some s0_10)) (zI 1).toNatClampNeg (some s1_13)) (zI 2).toNatClampNeg (some s2_16))))))), (oa_5, ob 0 [.ref op_6, .ref od_7, .ref ow_8, .ref ol_9, iv 0, iv 0, iv 0, iv 0, iv 0, iv 0, iv 0, iv 0]), (op_6, ar cI 5 ((fun _ => 0))), (od_7, ar cI 5 ((fun _ => 0))), (ow_8, ar cI 3050 ((fun _ => 0))), (ol_9, ar cI 6 ((fun _ => 0))), (s0_10, ob 2 [.ref d0_11, .ref k0_12, iv 0, iv (-1), iv 0]), (d0_11, ar cI 5 ((fun _ => 0))), (k0_12, ar cI 3 ((fun _ => 0))), (s1_13, ob 2 [.ref d1_14, .ref k1_15, iv 0, iv (-1), iv 0]), (d1_14, ar cI 5 ((fun _ => 0))), (k1_15, ar cI 3 ((fun _ => 0))), (s2_16, ob 2 [.ref d2_17, .ref k2_18, iv 0, iv (-1), iv 0]), (d2_17, ar cI 5 ((fun _ => 0))), (k2_18, ar cI 3 ((fun _ => 0))), (q_19, ob 4 [iv 8, iv 0, .ref r1_20, .ref r2_21, iv 2, iv 0, iv 0, .ref r3_22, .ref r4_23, .ref r5_24, .ref r6_25, iv 0, .ref r7_26, iv 0]), (r1_20, ar cI 5 ((fun _ => 100))), (r2_21, ar cI 15 ((fun _ => 0))), (r3_22, ar cI 9 ((fun _ => 0))), (r4_23, ar cI 3 ((fun _ => 0))), (r5_24, ar cI 3 ((fun _ => (-1)))), (r6_25, ar cI 3 ((fun _ => 0))), (r7_26, ar cI 16775 ((fun _ => 0)))] := hD
  refine lv_astore_n (lv' := [(2, .ref q_19), (1, .ref q_1), (0, .ref scr)]) hx hb dL_law_15 rfl hl (by decide) rfl (fun ls hl => ?_)
  refine lv_iconst (v := zI 1) hx hb dL_law_16 rfl ?_
  refine i_newl (n := 1) (N := 1) hx hb w10 hK hP hD hS hA rfl (Nat.le_of_ble_eq_true rfl) (Nat.le_of_ble_eq_true rfl) (Nat.le_of_ble_eq_true rfl) dL_law_17 (fun q_27 H hP hD hS => ?_)
  have hP : va_P D vwCl [(q_1, ob 3 [.ref sa_2, .ref so_4, .ref oa_5]), (sa_2, ob 1 [.ref sp_3, iv 8, iv 0, iv 2, iv 0, iv 0, iv 0]), (sp_3, ar cI 5 ((fun _ => 100))), (so_4, .inl (cS, 3, .inr (.inr (.inr (.inr (va_up (va_up (va_up (fun _ => none) (zI 0).toNatClampNeg (some s0_10)) (zI 1).toNatClampNeg (some s1_13)) (zI 2).toNatClampNeg (some s2_16))))))), (oa_5, ob 0 [.ref op_6, .ref od_7, .ref ow_8, .ref ol_9, iv 0, iv 0, iv 0, iv 0, iv 0, iv 0, iv 0, iv 0]), (op_6, ar cI 5 ((fun _ => 0))), (od_7, ar cI 5 ((fun _ => 0))), (ow_8, ar cI 3050 ((fun _ => 0))), (ol_9, ar cI 6 ((fun _ => 0))), (s0_10, ob 2 [.ref d0_11, .ref k0_12, iv 0, iv (-1), iv 0]), (d0_11, ar cI 5 ((fun _ => 0))), (k0_12, ar cI 3 ((fun _ => 0))), (s1_13, ob 2 [.ref d1_14, .ref k1_15, iv 0, iv (-1), iv 0]), (d1_14, ar cI 5 ((fun _ => 0))), (k1_15, ar cI 3 ((fun _ => 0))), (s2_16, ob 2 [.ref d2_17, .ref k2_18, iv 0, iv (-1), iv 0]), (d2_17, ar cI 5 ((fun _ => 0))), (k2_18, ar cI 3 ((fun _ => 0))), (q_19, ob 4 [iv 8, iv 0, .ref r1_20, .ref r2_21, iv 2, iv 0, iv 0, .ref r3_22, .ref r4_23, .ref r5_24, .ref r6_25, iv 0, .ref r7_26, iv 0]), (r1_20, ar cI 5 ((fun _ => 100))), (r2_21, ar cI 15 ((fun _ => 0))), (r3_22, ar cI 9 ((fun _ => 0))), (r4_23, ar cI 3 ((fun _ => 0))), (r5_24, ar cI 3 ((fun _ => (-1)))), (r6_25, ar cI 3 ((fun _ => 0))), (r7_26, ar cI 16775 ((fun _ => 0))), (q_27, .inl (cJ, 1, .inr (.inl (fun _ => 0))))] H := hP
  have hD : va_D A [(q_1, ob 3 [.ref sa_2, .ref so_4, .ref oa_5]), (sa_2, ob 1 [.ref sp_3, iv 8, iv 0, iv 2, iv 0, iv 0, iv 0]), (sp_3, ar cI 5 ((fun _ => 100))), (so_4, .inl (cS, 3, .inr (.inr (.inr (.inr (va_up (va_up (va_up (fun _ => none) (zI 0).toNatClampNeg (some s0_10)) (zI 1).toNatClampNeg (some s1_13)) (zI 2).toNatClampNeg (some s2_16))))))), (oa_5, ob 0 [.ref op_6, .ref od_7, .ref ow_8, .ref ol_9, iv 0, iv 0, iv 0, iv 0, iv 0, iv 0, iv 0, iv 0]), (op_6, ar cI 5 ((fun _ => 0))), (od_7, ar cI 5 ((fun _ => 0))), (ow_8, ar cI 3050 ((fun _ => 0))), (ol_9, ar cI 6 ((fun _ => 0))), (s0_10, ob 2 [.ref d0_11, .ref k0_12, iv 0, iv (-1), iv 0]), (d0_11, ar cI 5 ((fun _ => 0))), (k0_12, ar cI 3 ((fun _ => 0))), (s1_13, ob 2 [.ref d1_14, .ref k1_15, iv 0, iv (-1), iv 0]), (d1_14, ar cI 5 ((fun _ => 0))), (k1_15, ar cI 3 ((fun _ => 0))), (s2_16, ob 2 [.ref d2_17, .ref k2_18, iv 0, iv (-1), iv 0]), (d2_17, ar cI 5 ((fun _ => 0))), (k2_18, ar cI 3 ((fun _ => 0))), (q_19, ob 4 [iv 8, iv 0, .ref r1_20, .ref r2_21, iv 2, iv 0, iv 0, .ref r3_22, .ref r4_23, .ref r5_24, .ref r6_25, iv 0, .ref r7_26, iv 0]), (r1_20, ar cI 5 ((fun _ => 100))), (r2_21, ar cI 15 ((fun _ => 0))), (r3_22, ar cI 9 ((fun _ => 0))), (r4_23, ar cI 3 ((fun _ => 0))), (r5_24, ar cI 3 ((fun _ => (-1)))), (r6_25, ar cI 3 ((fun _ => 0))), (r7_26, ar cI 16775 ((fun _ => 0))), (q_27, .inl (cJ, 1, .inr (.inl (fun _ => 0))))] := hD
  refine lv_astore_n (lv' := [(3, .ref q_27), (2, .ref q_19), (1, .ref q_1), (0, .ref scr)]) hx hb dL_law_19 rfl hl (by decide) rfl (fun ls hl => ?_)
  refine lv_iconst (v := zI 0) hx hb dL_law_20 rfl ?_
  refine lv_istore (lv' := [(4, iv 0), (3, .ref q_27), (2, .ref q_19), (1, .ref q_1), (0, .ref scr)]) hx hb dL_law_21 hl (by decide) rfl (fun ls hl => ?_)
  subst hA9
  have hW9 : WE D vwCl [(q_1, ob 3 [.ref sa_2, .ref so_4, .ref oa_5]), (sa_2, ob 1 [.ref sp_3, iv 8, iv 0, iv 2, iv 0, iv 0, iv 0]), (sp_3, ar cI 5 ((fun _ => 100))), (so_4, .inl (cS, 3, .inr (.inr (.inr (.inr (va_up (va_up (va_up (fun _ => none) (zI 0).toNatClampNeg (some s0_10)) (zI 1).toNatClampNeg (some s1_13)) (zI 2).toNatClampNeg (some s2_16))))))), (oa_5, ob 0 [.ref op_6, .ref od_7, .ref ow_8, .ref ol_9, iv 0, iv 0, iv 0, iv 0, iv 0, iv 0, iv 0, iv 0]), (op_6, ar cI 5 ((fun _ => 0))), (od_7, ar cI 5 ((fun _ => 0))), (ow_8, ar cI 3050 ((fun _ => 0))), (ol_9, ar cI 6 ((fun _ => 0))), (s0_10, ob 2 [.ref d0_11, .ref k0_12, iv 0, iv (-1), iv 0]), (d0_11, ar cI 5 ((fun _ => 0))), (k0_12, ar cI 3 ((fun _ => 0))), (s1_13, ob 2 [.ref d1_14, .ref k1_15, iv 0, iv (-1), iv 0]), (d1_14, ar cI 5 ((fun _ => 0))), (k1_15, ar cI 3 ((fun _ => 0))), (s2_16, ob 2 [.ref d2_17, .ref k2_18, iv 0, iv (-1), iv 0]), (d2_17, ar cI 5 ((fun _ => 0))), (k2_18, ar cI 3 ((fun _ => 0))), (q_19, ob 4 [iv 8, iv 0, .ref r1_20, .ref r2_21, iv 2, iv 0, iv 0, .ref r3_22, .ref r4_23, .ref r5_24, .ref r6_25, iv 0, .ref r7_26, iv 0]), (r1_20, ar cI 5 ((fun _ => 100))), (r2_21, ar cI 15 ((fun _ => 0))), (r3_22, ar cI 9 ((fun _ => 0))), (r4_23, ar cI 3 ((fun _ => 0))), (r5_24, ar cI 3 ((fun _ => (-1)))), (r6_25, ar cI 3 ((fun _ => 0))), (r7_26, ar cI 16775 ((fun _ => 0))), (q_27, .inl (cJ, 1, .inr (.inl (fun _ => 0))))] (CW cI cS (aF q_1 sa_2 sp_3 so_4 oa_5 op_6 od_7 ow_8 ol_9 s0_10 s1_13 s2_16 d0_11 d1_14 d2_17 k0_12 k1_15 k2_18) x_new (fun _ _ => 0) ++ MW cI (bF q_19 r1_20 r2_21 r3_22 r4_23 r5_24 r6_25 r7_26) x_new 0 (fun _ => 0) ++ [(q_27, .inl (cJ, 1, .inr (.inl (fun _ => 0))))]) := ⟨ce_of (by rfl), ⟨ce_of (by rfl), ⟨ce_ar (fun j h0 h1 => rfl), ⟨ce_q (fun j hj => by rcases (show j = 0 ∨ j = 1 ∨ j = 2 by omega) with rfl | rfl | rfl <;> simp only [va_up, show (zI 0).toNatClampNeg = 0 by decide, show (zI 1).toNatClampNeg = 1 by decide, show (zI 2).toNatClampNeg = 2 by decide] <;> rfl), ⟨ce_of (by rfl), ⟨ce_ar (fun j h0 h1 => rfl), ⟨ce_ar (fun j h0 h1 => rfl), ⟨ce_ar (fun j h0 h1 => rfl), ⟨ce_ar (fun j h0 h1 => rfl), ⟨ce_of (by rfl), ⟨ce_ar (fun j h0 h1 => rfl), ⟨ce_ar (fun j h0 h1 => rfl), ⟨ce_of (by rfl), ⟨ce_ar (fun j h0 h1 => rfl), ⟨ce_ar (fun j h0 h1 => rfl), ⟨ce_of (by rfl), ⟨ce_ar (fun j h0 h1 => rfl), ⟨ce_ar (fun j h0 h1 => rfl), ⟨ce_of (by rfl), ⟨ce_ar (fun j h0 h1 => rfl), ⟨ce_ar (fun j h0 h1 => rfl), ⟨ce_ar (fun j h0 h1 => rfl), ⟨ce_ar (fun j h0 h1 => rfl), ⟨ce_ar (fun j h0 h1 => rfl), ⟨ce_ar (fun j h0 h1 => rfl), ⟨ce_ar (fun j h0 h1 => rfl), ⟨ce_rf, trivial⟩⟩⟩⟩⟩⟩⟩⟩⟩⟩⟩⟩⟩⟩⟩⟩⟩⟩⟩⟩⟩⟩⟩⟩⟩⟩⟩
  have hP9 : va_P D vwCl (CW cI cS (aF q_1 sa_2 sp_3 so_4 oa_5 op_6 od_7 ow_8 ol_9 s0_10 s1_13 s2_16 d0_11 d1_14 d2_17 k0_12 k1_15 k2_18) x_new (fun _ _ => 0) ++ MW cI (bF q_19 r1_20 r2_21 r3_22 r4_23 r5_24 r6_25 r7_26) x_new 0 (fun _ => 0) ++ [(q_27, .inl (cJ, 1, .inr (.inl (fun _ => 0))))]) H := hW9.P (hP.sub (ws' := [(q_1, ob 3 [.ref sa_2, .ref so_4, .ref oa_5]), (sa_2, ob 1 [.ref sp_3, iv 8, iv 0, iv 2, iv 0, iv 0, iv 0]), (sp_3, ar cI 5 ((fun _ => 100))), (so_4, .inl (cS, 3, .inr (.inr (.inr (.inr (va_up (va_up (va_up (fun _ => none) (zI 0).toNatClampNeg (some s0_10)) (zI 1).toNatClampNeg (some s1_13)) (zI 2).toNatClampNeg (some s2_16))))))), (oa_5, ob 0 [.ref op_6, .ref od_7, .ref ow_8, .ref ol_9, iv 0, iv 0, iv 0, iv 0, iv 0, iv 0, iv 0, iv 0]), (op_6, ar cI 5 ((fun _ => 0))), (od_7, ar cI 5 ((fun _ => 0))), (ow_8, ar cI 3050 ((fun _ => 0))), (ol_9, ar cI 6 ((fun _ => 0))), (s0_10, ob 2 [.ref d0_11, .ref k0_12, iv 0, iv (-1), iv 0]), (d0_11, ar cI 5 ((fun _ => 0))), (k0_12, ar cI 3 ((fun _ => 0))), (s1_13, ob 2 [.ref d1_14, .ref k1_15, iv 0, iv (-1), iv 0]), (d1_14, ar cI 5 ((fun _ => 0))), (k1_15, ar cI 3 ((fun _ => 0))), (s2_16, ob 2 [.ref d2_17, .ref k2_18, iv 0, iv (-1), iv 0]), (d2_17, ar cI 5 ((fun _ => 0))), (k2_18, ar cI 3 ((fun _ => 0))), (q_19, ob 4 [iv 8, iv 0, .ref r1_20, .ref r2_21, iv 2, iv 0, iv 0, .ref r3_22, .ref r4_23, .ref r5_24, .ref r6_25, iv 0, .ref r7_26, iv 0]), (r1_20, ar cI 5 ((fun _ => 100))), (r2_21, ar cI 15 ((fun _ => 0))), (r3_22, ar cI 9 ((fun _ => 0))), (r4_23, ar cI 3 ((fun _ => 0))), (r5_24, ar cI 3 ((fun _ => (-1)))), (r6_25, ar cI 3 ((fun _ => 0))), (r7_26, ar cI 16775 ((fun _ => 0))), (q_27, .inl (cJ, 1, .inr (.inl (fun _ => 0))))]) [0, 1, 2, 3, 4, 5, 6, 7, 8, 9, 10, 11, 12, 13, 14, 15, 16, 17, 18, 19, 20, 21, 22, 23, 24, 25, 26] rfl)
  have hD9 : va_D (fun q : Nat => s.heap.size ≤ q) (CW cI cS (aF q_1 sa_2 sp_3 so_4 oa_5 op_6 od_7 ow_8 ol_9 s0_10 s1_13 s2_16 d0_11 d1_14 d2_17 k0_12 k1_15 k2_18) x_new (fun _ _ => 0) ++ MW cI (bF q_19 r1_20 r2_21 r3_22 r4_23 r5_24 r6_25 r7_26) x_new 0 (fun _ => 0) ++ [(q_27, .inl (cJ, 1, .inr (.inl (fun _ => 0))))]) := hW9.D (hD.sub (ws' := [(q_1, ob 3 [.ref sa_2, .ref so_4, .ref oa_5]), (sa_2, ob 1 [.ref sp_3, iv 8, iv 0, iv 2, iv 0, iv 0, iv 0]), (sp_3, ar cI 5 ((fun _ => 100))), (so_4, .inl (cS, 3, .inr (.inr (.inr (.inr (va_up (va_up (va_up (fun _ => none) (zI 0).toNatClampNeg (some s0_10)) (zI 1).toNatClampNeg (some s1_13)) (zI 2).toNatClampNeg (some s2_16))))))), (oa_5, ob 0 [.ref op_6, .ref od_7, .ref ow_8, .ref ol_9, iv 0, iv 0, iv 0, iv 0, iv 0, iv 0, iv 0, iv 0]), (op_6, ar cI 5 ((fun _ => 0))), (od_7, ar cI 5 ((fun _ => 0))), (ow_8, ar cI 3050 ((fun _ => 0))), (ol_9, ar cI 6 ((fun _ => 0))), (s0_10, ob 2 [.ref d0_11, .ref k0_12, iv 0, iv (-1), iv 0]), (d0_11, ar cI 5 ((fun _ => 0))), (k0_12, ar cI 3 ((fun _ => 0))), (s1_13, ob 2 [.ref d1_14, .ref k1_15, iv 0, iv (-1), iv 0]), (d1_14, ar cI 5 ((fun _ => 0))), (k1_15, ar cI 3 ((fun _ => 0))), (s2_16, ob 2 [.ref d2_17, .ref k2_18, iv 0, iv (-1), iv 0]), (d2_17, ar cI 5 ((fun _ => 0))), (k2_18, ar cI 3 ((fun _ => 0))), (q_19, ob 4 [iv 8, iv 0, .ref r1_20, .ref r2_21, iv 2, iv 0, iv 0, .ref r3_22, .ref r4_23, .ref r5_24, .ref r6_25, iv 0, .ref r7_26, iv 0]), (r1_20, ar cI 5 ((fun _ => 100))), (r2_21, ar cI 15 ((fun _ => 0))), (r3_22, ar cI 9 ((fun _ => 0))), (r4_23, ar cI 3 ((fun _ => 0))), (r5_24, ar cI 3 ((fun _ => (-1)))), (r6_25, ar cI 3 ((fun _ => 0))), (r7_26, ar cI 16775 ((fun _ => 0))), (q_27, .inl (cJ, 1, .inr (.inl (fun _ => 0))))]) [0, 1, 2, 3, 4, 5, 6, 7, 8, 9, 10, 11, 12, 13, 14, 15, 16, 17, 18, 19, 20, 21, 22, 23, 24, 25, 26] (by decide) rfl)
  refine W.widen (k := 30) (n := 20000) (Nat.le_of_ble_eq_true rfl) (Nat.le_of_ble_eq_true rfl) ?_
  exact law_loop hst hC9 hL (L + 6) 0 (by omega) (by omega) x_new (fun _ _ => 0) 0 (fun _ => 0) (fun _ => 0) H _ 30 20000 ix_new (by omega) (by omega) hP9 hD9 hS ls (lv_sub hl [0, 1, 2, 3, 4] rfl)

set_option maxHeartbeats 4000000 in
theorem lw_walk (l : Launch) (hflags : l.flags = flags0) (b : Addr) (xs : List Int32) : MetFree l x (headSpec (Jvm.Cond.code x code maxLocals ret :: tables_1) room_1) (lw_P b xs) (fun _ _ _ _ _ => True) lw_Q := by
  refine MetFree.of_bodyS (code := code) (maxLocals := maxLocals) (ret := ret) (by decide) ?_ ?_
  · intro args s m h hn
    obtain ⟨meth, c, h1, h2, h3, h4, h5, h6, -, -⟩ := Cond.code_spec hn (atoms_spec (ws := Jvm.Cond.code x code maxLocals ret :: tables_1) h _ List.mem_cons_self)
    exact ⟨meth, c, h1, h2, h3, h4, h5, h6⟩
  · intro p e s m args below meth c s₁ B hml0 hP _
    obtain ⟨rfl, hx, hbd, hgv⟩ := hP
    obtain ⟨scr, harrAt, hlist, hof, hsmall⟩ := hx
    obtain ⟨hcb, hkn, -, -⟩ := State.arrayAt?_spec harrAt
    have hown : s.vm.findClass R_law = some m.cls := findClass_of_methodNamed B.named
    have hts0 : ∀ c ∈ (Jvm.Cond.code x code maxLocals ret :: tables_1), c.before #[Value.ref b] s = true := atoms_spec (ws := Jvm.Cond.code x code maxLocals ret :: tables_1) B.pre
    have hts : ∀ w ∈ lw_tbl, w.before #[Value.ref b] s = true := k2_hts_sels lw_privs (fun w hw => hts0 w (List.mem_cons_of_mem _ hw)) lw_privs_ok
    have hml : c.maxLocals = 7 := B.maxLocals_eq (hts0 _ List.mem_cons_self)
    have X₀ : Stand p l e room_1 s m #[Value.ref b] below meth c s₁ [] 0 0 := Stand.of_body B
    have hh0 : s₁.heap = s.heap := by rw [B.state]; rfl
    have hsz : scr.slots.size = xs.length := by rw [← Array.length_toList, hlist, List.length_map]
    have hval : ∀ j : Nat, j < xs.length → scr.slots[j]? = some (.int (xs.getD j 0)) := fun j hj => by
      rw [← Array.getElem?_toList, hlist]
      simp [hj]
    have hbl : b < s.heap.size := (Array.getElem?_eq_some_iff.mp hcb).1
    have hX : va_X b xs.length (fun j => xs.getD j 0) s s.heap := ⟨scr, hcb, hof, hkn, hsz, hval⟩
    have K : W p l e room_1 s m #[Value.ref b] below meth c s₁.heap [] 0 0 (lw_Z below #[Value.ref b] s) (entryFrame m ([Value.ref b] : List Value).toArray 7) := by
      rw [hh0]
      exact whole_start l hflags hbd ⟨B.exec, B.bytes, B.returns, hml, hown, hts, hX, hbl, B.notSynchronized, hgv⟩
    obtain ⟨t, a1, o, b1, b2, b3⟩ := K s₁ rfl X₀
    exact ⟨t, o, a1, b1, b2, b3⟩
theorem lw_pre_spec {args : Array Value} {s : State} (h : (Jvm.Cond.and given_1 narrow_1).before args s = true) (hr : rest_1_c.before args s = true) : ∃ (b : Addr) (xs : List Int32), lw_P b xs args s := by
  have hs := flat_of_before _ h
  have hq := flat_of_before _ hr
  have hc : (Cond.count 1).before args s = true := hs _ (by decide +kernel)
  have harr : (Cond.arrayOf (.arg 0) .int).before args s = true := hs _ (by decide +kernel)
  have hle : (Cond.le (.length (.arg 0)) (.int 2560)).before args s = true := hs _ (by decide +kernel)
  have hlen : (Cond.isInt (.length (.arg 0))).before args s = true := hq _ (by decide +kernel)
  have hall : (Cond.all (.arg 0) (.isInt (.elem (.arg 0) (.index 0)))).before args s = true := hq _ (by decide +kernel)
  obtain ⟨b, xs, hb, hx⟩ := State.ints_of_pre rfl harr hlen hall
  have hsm : xs.length < 2 ^ 31 := hx.choose_spec.2.2.2
  have hev : (Term.length (.arg 0)).eval args s none [] s = some (.int xs.length.toInt32) := hx.length_eval hb
  have hv := Cond.le_ints hev (show (Term.int 2560).eval args s none [] s = some (.int 2560) from rfl)
  have hd : xs.length.toInt32 ≤ 2560 := by
    simpa [Cond.before, Cond.holds, hv] using hle
  have hN : xs.length ≤ 2560 := (Int32.ofNat_le_ofNat hsm (by decide)).mp (show Int32.ofNat xs.length ≤ Int32.ofNat 2560 from hd)
  exact ⟨b, xs, Cond.one_arg hc (show args[0]? = some (.ref b) from hb), hx, hN, h⟩
theorem lw_comes (l : Launch) (hflags : l.flags = flags0) : Comes l x (Jvm.Cond.code x code maxLocals ret :: tables_1) room_1 (fun tb e args s => Calls_1 tb e args s ∧ rest_1 tb e args s ∧ Pre_1 tb e args s)
    (fun _ _ args s o t => lw_Q args s o t) := by
  intro p e ha hc hk s m args below hf hfit hheap happ hpre
  obtain ⟨b, xs, hP⟩ := lw_pre_spec hpre.2.2 hpre.2.1
  obtain ⟨k, o, h1, h2, h3, hQ⟩ := lw_walk l hflags b xs p e ha hc hk s m args below hf ((Spec.applies_iff_loose hf).mp happ).1 hP trivial
  exact ⟨k, o, h1, h2, h3, hQ⟩
theorem lw_frame {s t : State} {o : Outcome} {args : Array Value} (h : Framed s o t [] 601024 7293033) :
    Framed s o t (fieldLocs frame_1_writes args s ++ arrayLocs frame_1_arrays args s ++ staticLocs frame_1_statics s) 601024 7293033 := h
theorem lw_limb (L : Cond) (hL : ∀ (args : Array Value) (s t : State), L.after args s (.returned (some (.int 1))) t = true) :
    ArmFor flags0 classFile x code maxLocals ret World_1 tables_1 room_1 Calls_1 rest_1 Pre_1
      (fun tb e a s o t => postC L tb e a s o t ∧ Framed s o t (fieldLocs frame_1_writes a s ++ arrayLocs frame_1_arrays a s ++ staticLocs frame_1_statics s) 601024 7293033) := by
  intro l hflags _ _ p e ha hc hk s m args below hf hfit hheap happ hpre
  obtain ⟨k, o, h1, h2, h3, rfl, hF⟩ := lw_comes l hflags p e ha hc hk s m args below hf hfit hheap happ hpre
  exact ⟨k, _, h1, h2, h3, hL args s _, lw_frame hF⟩
theorem i_vc : Claimed_1_1 ∧ Claimed_1_2 := ⟨lw_limb limb_1_1 (fun args s t => by simp [limb_1_1, Cond.after, Cond.holds, Cond.value]), lw_limb limb_1_2 (fun args s t => Cond.after_iff.mpr (by
  first | (rw [show limb_1_2 = Cond.eq .result (.int 1) from rfl, Cond.eq_ints (x := 1) (y := 1) rfl rfl]; simp; done) | (simp [limb_1_2, Cond.value, Term.eval]; done)))⟩
