theorem ce_q {D : va_G} {cl : List vw_C} {p : Nat} {cA : ClassId} {n : Nat} {f g : Nat → Option Nat} (h : ∀ j : Nat, j < n → f j = g j) : ce_eq D cl (p, .inl (cA, n, .inr (.inr (.inr (.inr f))))) (p, .inl (cA, n, .inr (.inr (.inr (.inr g))))) := ⟨rfl, fun H h1 => by
  have h2 : H[p]? = some (vp_cell cA (n, .inr (.inr (.inr (.inr f))))) := h1
  show H[p]? = some (vp_cell cA (n, .inr (.inr (.inr (.inr g)))))
  rw [h2]
  simp only [vp_cell_q, arrV]
  congr 2
  refine congrArg _ ?_
  funext j
  exact congrArg va_rf (h j.val j.isLt)⟩

/-- the addresses of a new planner's cells -/
def aF (h sa sp so oa op od ow ol s0 s1 s2 d0 d1 d2 k0 k1 k2 : Nat) : Nat → Nat := fun k => match k with
  | 0 => h | 1 => sa | 2 => sp | 3 => so | 4 => oa | 5 => op | 6 => od | 7 => ow | 8 => ol | 9 => s0 | 10 => s1 | 11 => s2 | 12 => d0 | 13 => d1 | 14 => d2 | 15 => k0 | 16 => k1 | _ => k2

set_option maxHeartbeats 4000000 in
set_option maxRecDepth 100000 in
/-- THE LAW'S LOOP: at its head the stores are alike -/
theorem law_loop {p : Program} {l : Launch} {e : Env} {s : State} {m : MethodId} {below : List Frame} {meth : Method} {c : Code} (hst : l.stackTraces = false) {D : va_G} {cI cS cJ : ClassId} {scr L : Nat} {xs : Nat → Int32} (hC : LC p s m meth c scr L xs D cI cS cJ) (hL : L ≤ 260) {a b : Nat → Nat} {g : Int} (hg : g = 1 ∨ g = 2) :
    ∀ (n : Nat) (k : Int), 1 ≤ k → k ≤ 120 → 120 - k < n → ∀ (x y u w : Nat → Int → Int) (H : Heap) (locs : List Loc) (cells slots : Nat), TN g x u → IX x → IX u → cells ≤ 60 + 108 * k.toNat → slots ≤ 20000 + 648 * k.toNat → va_P D vwCl (CW cI cS a x y ++ CW cI cS b u w) H → va_D (fun q : Nat => s.heap.size ≤ q) (CW cI cS a x y ++ CW cI cS b u w) → va_S (fun q : Nat => s.heap.size ≤ q) s.heap H locs → ∀ (ls : Array Slot), lv_has ls 13 [(5, iv k), (4, iv 1), (3, iv g), (2, .ref (b 0)), (1, .ref (a 0)), (0, .ref scr)] → W p l e room_1 s m #[Value.ref scr] below meth c H locs cells slots (lw_Z below #[Value.ref scr] s) (F0 m 32 ls []) := by
  have hC9 := hC
  obtain ⟨hx, hb, hr, hml, hown, hts, hX, hbl, hlocks, hE, hK, hZ, -⟩ := hC
  have hA : ∀ q : Nat, s.heap.size ≤ q → (fun q : Nat => s.heap.size ≤ q) q := fun _ h => h
  have hbA : ¬ (fun q : Nat => s.heap.size ≤ q) scr := Nat.not_le.mpr hbl
  intro n
  induction n with
  | zero =>
    intro k h1 h2 h3
    exact absurd h3 (by omega)
  | succ n ih =>
    intro k hk1 hk2 hkn x y u w H locs cells slots hT hI hJ hc hs hP hD hS ls hl
    have nxt : ∀ {z kd v i t nb : Int} (hv : 0 ≤ v ∧ v < 100000000) (hn : 0 ≤ nb ∧ nb < 10000000) (hi : 0 ≤ i ∧ i < 3) (ht : t = (i + g) % 3) (hk : k < 120) (x2 y2 u2 w2 : Nat → Int → Int) (H1 : Heap) (locs1 : List Loc) (ls1 : Array Slot), TN g x2 u2 → IX x2 → IX u2 → va_P D vwCl (CW cI cS a x2 y2 ++ CW cI cS b u2 w2) H1 → va_D (fun q : Nat => s.heap.size ≤ q) (CW cI cS a x2 y2 ++ CW cI cS b u2 w2) → va_S (fun q : Nat => s.heap.size ≤ q) s.heap H1 locs1 → lv_has ls1 13 [(11, iv nb), (10, iv t), (9, iv i), (8, iv v), (7, iv kd), (6, iv z), (5, iv k), (4, iv 1), (3, iv g), (2, .ref (b 0)), (1, .ref (a 0)), (0, .ref scr)] → W p l e room_1 s m #[Value.ref scr] below meth c H1 locs1 (cells + 12) (slots + 72) (lw_Z below #[Value.ref scr] s) (F0 m 564 ls1 []) := by
      intro z kd v i t nb hv hn hi ht hk x2 y2 u2 w2 H1 locs1 ls1 hT2 hI2 hJ2 hP2 hD2 hS2 hl2
      refine lw_told hst hC9 hA hZ hg ⟨hk1, hk⟩ hv hn hi ht hT2 hI2 hJ2 (by omega) (by omega) hP2 hD2 hS2 hl2 (fun y3 w3 H2 locs2 ls2 g1 g2 g3 g4 => ?_)
      refine i_iinc (n := 1) (lv' := [(5, iv (k + 1)), (11, iv nb), (10, iv t), (9, iv i), (8, iv v), (7, iv kd), (6, iv z), (4, iv 1), (3, iv g), (2, .ref (b 0)), (1, .ref (a 0)), (0, .ref scr)]) hx hb dL_law_749 g4 (k := 6) rfl (by decide) rfl (fun ls hl => ?_)
      refine lv_goto (tgt := 32) hx hb dL_law_752 (by decide) ?_
      exact ih (k + 1) (by omega) (by omega) (by omega) x2 y3 u2 w3 H2 locs2 _ _ hT2 hI2 hJ2 (by omega) (by omega) g1 g2 g3 ls (lv_sub hl [0, 7, 8, 9, 10, 11] rfl)
    refine lv_iload hx hb dL_law_32 (lv_at hl 0 rfl) ?_
    refine lv_bipush (v := zI 120) hx hb dL_law_34 (by decide) ?_
    refine i_icmp_ge (tgt := 755) hx hb ⟨by omega, by omega⟩ ⟨by decide, by decide⟩ dL_law_36 (by decide) (fun c_1 => ?_) (fun c_1 => ?_)
    · skip
      refine lv_iload hx hb dL_law_755 (lv_at hl 1 rfl) ?_
      refine i_eqi (y := 1) (by decide) ?_
      refine va_forget (fun q hq => hS.2.2 q hq) ?_
      refine W.widen (k := 600104) (n := 7301314) (by omega) (by omega) ?_
      exact lw_ret hx hb hr hlocks dL_law_757
    · skip
      refine lv_iload hx hb dL_law_39 (lv_at hl 1 rfl) ?_
      refine i_if_eq (tgt := 755) hx hb ⟨by decide, by decide⟩ dL_law_41 (by decide) (fun c_2 => absurd c_2 (by decide)) (fun c_2 => ?_)
      refine lv_aload_n hx hb dL_law_44 rfl (lv_at hl 5 rfl) ?_
      refine lv_iload hx hb dL_law_45 (lv_at hl 0 rfl) ?_
      refine lv_bipush (v := zI 60) hx hb dL_law_47 (by decide) ?_
      refine i_irem hx hb (by omega) (by omega) (by decide) (by decide) dL_law_49 ?_
      refine ms_D (va_runS (As := [.ref scr, iv (k % 60)]) (rest := []) ⟨hx, hb, hml, hown, hts⟩ (mt_L_drawn l (b := scr) (xs := xs) hL (k := k % 60) (by omega)) (va_cwS 2 hts gL_law_L_drawn rfl rfl rfl (by decide +kernel) ⟨Nat.le_of_ble_eq_true rfl, Nat.le_of_ble_eq_true rfl⟩) (pcD_S hX hbl hbA hS) rfl rfl hl.1 rfl (lv_room (Nat.le_of_ble_eq_true rfl)) dL_law_50 ⟨show _ ≤ 600104 by omega, show _ ≤ 7301314 by omega⟩) (fun dr dr0 dr1 => ?_)
      refine lv_iconst (v := zI 1) hx hb dL_law_53 rfl ?_
      refine lv_iload hx hb dL_law_54 (lv_at hl 0 rfl) ?_
      refine lv_bipush (v := zI 60) hx hb dL_law_56 (by decide) ?_
      refine i_idiv hx hb (by omega) (by omega) (by decide) (by decide) dL_law_58 ?_
      refine i_iadd hx hb dL_law_59 ?_
      refine i_idiv hx hb (by omega) (by omega) (by omega) (by omega) dL_law_60 ?_
      refine i_name (fun zq hzq => ?_)
      have bzq : 0 ≤ zq ∧ zq < 1073741824 := by rw [hzq]; exact ⟨Int.ediv_nonneg dr0 (by omega), Int.lt_of_le_of_lt (Int.ediv_le_self _ dr0) dr1⟩
      clear hzq
      refine lv_iconst (v := zI 5) hx hb dL_law_61 rfl ?_
      refine lv_iload hx hb dL_law_62 (lv_at hl 0 rfl) ?_
      refine lv_bipush (v := zI 60) hx hb dL_law_64 (by decide) ?_
      refine i_idiv hx hb (by omega) (by omega) (by decide) (by decide) dL_law_66 ?_
      refine i_imul hx hb dL_law_67 ?_
      refine i_iadd hx hb dL_law_68 ?_
      refine i_name (fun z hz => ?_)
      have bz : 0 ≤ z ∧ z < 1073741830 := by omega
      clear hz
      refine lv_istore (lv' := [(6, iv z), (5, iv k), (4, iv 1), (3, iv g), (2, .ref (b 0)), (1, .ref (a 0)), (0, .ref scr)]) hx hb dL_law_69 hl (by decide) rfl (fun ls hl => ?_)
      refine lv_iload hx hb dL_law_71 (lv_at hl 0 rfl) ?_
      refine lv_bipush (v := zI 18) hx hb dL_law_73 (by decide) ?_
      refine i_irem hx hb (by omega) (by omega) (by decide) (by decide) dL_law_75 ?_
      refine i_name (fun kd hkd => ?_)
      have bkd : 0 ≤ kd ∧ kd < 18 := by omega
      clear hkd
      refine lv_istore (lv' := [(7, iv kd), (6, iv z), (5, iv k), (4, iv 1), (3, iv g), (2, .ref (b 0)), (1, .ref (a 0)), (0, .ref scr)]) hx hb dL_law_76 hl (by decide) rfl (fun ls hl => ?_)
      refine lv_iload hx hb dL_law_78 (lv_at hl 1 rfl) ?_
      refine lv_bipush (v := zI 18) hx hb dL_law_80 (by decide) ?_
      refine i_idiv hx hb (by omega) (by omega) (by decide) (by decide) dL_law_82 ?_
      refine i_name (fun v hv => ?_)
      have bv : 0 ≤ v ∧ v < 100000000 := by omega
      clear hv
      refine lv_istore (lv' := [(8, iv v), (7, iv kd), (6, iv z), (5, iv k), (4, iv 1), (3, iv g), (2, .ref (b 0)), (1, .ref (a 0)), (0, .ref scr)]) hx hb dL_law_83 hl (by decide) rfl (fun ls hl => ?_)
      refine lv_iload hx hb dL_law_85 (lv_at hl 0 rfl) ?_
      refine lv_iconst (v := zI 3) hx hb dL_law_87 rfl ?_
      refine i_irem hx hb (by omega) (by omega) (by decide) (by decide) dL_law_88 ?_
      refine i_name (fun i hi => ?_)
      have bi : 0 ≤ i ∧ i < 3 := by omega
      clear hi
      refine lv_istore (lv' := [(9, iv i), (8, iv v), (7, iv kd), (6, iv z), (5, iv k), (4, iv 1), (3, iv g), (2, .ref (b 0)), (1, .ref (a 0)), (0, .ref scr)]) hx hb dL_law_89 hl (by decide) rfl (fun ls hl => ?_)
      refine lv_iload hx hb dL_law_91 (lv_at hl 0 rfl) ?_
      refine lv_iload_n hx hb dL_law_93 rfl (lv_at hl 6 rfl) ?_
      refine i_iadd hx hb dL_law_94 ?_
      refine lv_iconst (v := zI 3) hx hb dL_law_95 rfl ?_
      refine i_irem hx hb (by omega) (by omega) (by decide) (by decide) dL_law_96 ?_
      refine i_name (fun t ht => ?_)
      have bt : 0 ≤ t ∧ t < 3 := by omega
      have ht9 := ht
      refine lv_istore (lv' := [(10, iv t), (9, iv i), (8, iv v), (7, iv kd), (6, iv z), (5, iv k), (4, iv 1), (3, iv g), (2, .ref (b 0)), (1, .ref (a 0)), (0, .ref scr)]) hx hb dL_law_97 hl (by decide) rfl (fun ls hl => ?_)
      refine lv_iload hx hb dL_law_99 (lv_at hl 2 rfl) ?_
      refine lv_bipush (v := zI 15) hx hb dL_law_101 (by decide) ?_
      refine i_idiv hx hb (by omega) (by omega) (by decide) (by decide) dL_law_103 ?_
      refine i_name (fun nb hnb => ?_)
      have bnb : 0 ≤ nb ∧ nb < 10000000 := by omega
      clear hnb
      refine lv_istore (lv' := [(11, iv nb), (10, iv t), (9, iv i), (8, iv v), (7, iv kd), (6, iv z), (5, iv k), (4, iv 1), (3, iv g), (2, .ref (b 0)), (1, .ref (a 0)), (0, .ref scr)]) hx hb dL_law_104 hl (by decide) rfl (fun ls hl => ?_)
      refine lv_iload hx hb dL_law_106 (lv_at hl 4 rfl) ?_
      refine i_if_ne (tgt := 161) hx hb ⟨by omega, by omega⟩ dL_law_108 (by decide) (fun c_3 => ?_) (fun c_3 => ?_)
      · skip
        refine lv_iload hx hb dL_law_161 (lv_at hl 4 rfl) ?_
        refine lv_iconst (v := zI 3) hx hb dL_law_163 rfl ?_
        refine i_icmp_ge (tgt := 218) hx hb ⟨by omega, by omega⟩ ⟨by decide, by decide⟩ dL_law_164 (by decide) (fun c_4 => ?_) (fun c_4 => ?_)
        · skip
          refine lv_iload hx hb dL_law_218 (lv_at hl 4 rfl) ?_
          refine lv_bipush (v := zI 7) hx hb dL_law_220 (by decide) ?_
          refine i_icmp_ge (tgt := 276) hx hb ⟨by omega, by omega⟩ ⟨by decide, by decide⟩ dL_law_222 (by decide) (fun c_5 => ?_) (fun c_5 => ?_)
          · skip
            refine lv_iload hx hb dL_law_276 (lv_at hl 4 rfl) ?_
            refine lv_bipush (v := zI 7) hx hb dL_law_278 (by decide) ?_
            refine i_icmp_ne (tgt := 345) hx hb ⟨by omega, by omega⟩ ⟨by decide, by decide⟩ dL_law_280 (by decide) (fun c_6 => ?_) (fun c_6 => ?_)
            · skip
              refine lv_iload hx hb dL_law_345 (lv_at hl 4 rfl) ?_
              refine lv_bipush (v := zI 11) hx hb dL_law_347 (by decide) ?_
              refine i_icmp_ge (tgt := 407) hx hb ⟨by omega, by omega⟩ ⟨by decide, by decide⟩ dL_law_349 (by decide) (fun c_7 => ?_) (fun c_7 => ?_)
              · skip
                refine lv_iload hx hb dL_law_407 (lv_at hl 4 rfl) ?_
                refine lv_bipush (v := zI 11) hx hb dL_law_409 (by decide) ?_
                refine i_icmp_ne (tgt := 484) hx hb ⟨by omega, by omega⟩ ⟨by decide, by decide⟩ dL_law_411 (by decide) (fun c_8 => ?_) (fun c_8 => ?_)
                · skip
                  refine lv_iload hx hb dL_law_484 (lv_at hl 4 rfl) ?_
                  refine lv_bipush (v := zI 14) hx hb dL_law_486 (by decide) ?_
                  refine i_icmp_ge (tgt := 534) hx hb ⟨by omega, by omega⟩ ⟨by decide, by decide⟩ dL_law_488 (by decide) (fun c_9 => ?_) (fun c_9 => ?_)
                  · skip
                    exact lw_case_run hst hC9 hA hZ hg ⟨hk1, by omega⟩ bv bnb bi ht hT hI hJ (by omega) (by omega) hP hD hS (lv_sub hl [0, 1, 2, 3, 4, 5, 6, 7, 8, 9, 10, 11] rfl) (nxt bv bnb bi ht (by omega))
                  · skip
                    exact lw_case_markDown hst hC9 hA hZ hg ⟨hk1, by omega⟩ bv bnb bi ht hT hI hJ (by omega) (by omega) hP hD hS (lv_sub hl [0, 1, 2, 3, 4, 5, 6, 7, 8, 9, 10, 11] rfl) (nxt bv bnb bi ht (by omega))
                · skip
                  exact lw_case_move hst hC9 hA hZ hg ⟨hk1, by omega⟩ bv bnb bi ht hT hI hJ (by omega) (by omega) hP hD hS (lv_sub hl [0, 1, 2, 3, 4, 5, 6, 7, 8, 9, 10, 11] rfl) (nxt bv bnb bi ht (by omega))
              · skip
                exact lw_case_put hst hC9 hA hZ hg ⟨hk1, by omega⟩ bv bnb bi ht hT hI hJ (by omega) (by omega) hP hD hS (lv_sub hl [0, 1, 2, 3, 4, 5, 6, 7, 8, 9, 10, 11] rfl) (nxt bv bnb bi ht (by omega))
            · skip
              exact lw_case_rules hst hC9 hA hZ hg ⟨hk1, by omega⟩ bv bnb bi ht hT hI hJ (by omega) (by omega) hP hD hS (lv_sub hl [0, 1, 2, 3, 4, 5, 6, 7, 8, 9, 10, 11] rfl) (nxt bv bnb bi ht (by omega))
          · skip
            exact lw_case_setDemand hst hC9 hA hZ hg ⟨hk1, by omega⟩ bv bnb bi ht hT hI hJ (by omega) (by omega) hP hD hS (lv_sub hl [0, 1, 2, 3, 4, 5, 6, 7, 8, 9, 10, 11] rfl) (nxt bv bnb bi ht (by omega))
        · skip
          exact lw_case_setPrice hst hC9 hA hZ hg ⟨hk1, by omega⟩ bv bnb bi ht hT hI hJ (by omega) (by omega) hP hD hS (lv_sub hl [0, 1, 2, 3, 4, 5, 6, 7, 8, 9, 10, 11] rfl) (nxt bv bnb bi ht (by omega))
      · skip
        exact lw_case_begin hst hC9 hA hZ hg ⟨hk1, by omega⟩ bv bnb bi ht hT hI hJ (by omega) (by omega) hP hD hS (lv_sub hl [0, 1, 2, 3, 4, 5, 6, 7, 8, 9, 10, 11] rfl) (nxt bv bnb bi ht (by omega))

set_option maxHeartbeats 4000000 in
set_option maxRecDepth 100000 in
/-- the law, from its entry -/
theorem whole_start {p : Program} {e : Env} {s : State} {m : MethodId} {below : List Frame} {meth : Method} {c : Code} (l : Launch) (hflags : l.flags = flags0) {b L : Nat} {xs : Nat → Int32} (hL : L ≤ 260) (C0 : lw_At p s m meth c b L xs) : W p l e room_1 s m #[Value.ref b] below meth c s.heap [] 0 0 (lw_Z below #[Value.ref b] s) (entryFrame m ([Value.ref b] : List Value).toArray 13) := by
  have hst := k_hst hflags
  obtain ⟨D, cI, cS, cJ, hC⟩ := LC_of C0
  have hC9 := hC
  generalize b = scr at *
  obtain ⟨hx, hb, hr, hml, hown, hts, hX, hbl, hlocks, hE, hK, hZ, hAO⟩ := hC
  obtain ⟨A, hA9⟩ : ∃ A : Nat → Prop, A = fun q : Nat => s.heap.size ≤ q := ⟨_, rfl⟩
  have hA : ∀ q : Nat, s.heap.size ≤ q → A q := fun _ h => by rw [hA9]; exact h
  have hbA : ¬ A scr := by rw [hA9]; exact Nat.not_le.mpr hbl
  have hS : va_S A s.heap s.heap [] := va_S.rf
  have hP : va_P D vwCl [] s.heap := fun k q h => by simp at h
  have hD : va_D A [] := ⟨fun i j p q h => by simp at h, fun k q h => by simp at h⟩
  refine en_fr (as := [Value.ref scr]) (Nat.le_of_ble_eq_true rfl) (fun ls hl => ?_)
  have hl : lv_has ls 13 [(0, .ref scr)] := hl
  have inX3 := inlX3
  have w0 : (Cond.classLink RL 9 RX3).before #[Value.ref scr] s = true := hts _ (by decide +kernel)
  have w1 : (Cond.instantiable RX3 3).before #[Value.ref scr] s = true := hts _ (by decide +kernel)
  have w2 : (Cond.initialized RX3).before #[Value.ref scr] s = true := hts _ (by decide +kernel)
  have w3 : (Cond.methodLink RL 69 yX3_init).before #[Value.ref scr] s = true := hts _ (by decide +kernel)
  have w4 : (Cond.instanceMethod yX3_init).before #[Value.ref scr] s = true := hts _ (by decide +kernel)
  refine va_new (ci := 3) (fs := [.null, .null, .null]) (C := RX3) (T := TX3) (N := 3) hx hb hts inX3 tyX3 tyX3_ok hown w0 w1 w2 hK hP hD hS hA rfl (fun j hj => by rcases (show j = 0 ∨ j = 1 ∨ j = 2 by omega) with rfl | rfl | rfl <;> rfl) (Nat.le_of_ble_eq_true rfl) (Nat.le_of_ble_eq_true rfl) dL_law_0 (fun q_1 H hP hD hS => ?_)
  have hP : va_P D vwCl [(q_1, ob 3 [.null, .null, .null])] H := hP
  have hD : va_D A [(q_1, ob 3 [.null, .null, .null])] := hD
  refine lv_dup hx hb dL_law_3 rfl ?_
  refine ms_M (wc := [(q_1, ob 3 [.null, .null, .null])]) (wr := []) (va_runI (As := []) (rest := [.ref q_1]) ⟨hx, hb, hml, hown, hts⟩ ((mt_X3_init l D cI cS cJ q_1) H.size) (cwI 0 hts gL_law_X3_init rfl rfl rfl w2 w3 w4 rfl (by decide +kernel) ⟨Nat.le_of_ble_eq_true rfl, Nat.le_of_ble_eq_true rfl⟩) (pcMA_S hE hK (hP.sub (ws' := [(q_1, ob 3 [.null, .null, .null])]) [0] rfl) (hD.sub (ws' := [(q_1, ob 3 [.null, .null, .null])]) [0] (by decide) rfl) hAO) rfl rfl hl.1 rfl (lv_room (Nat.le_of_ble_eq_true rfl)) dL_law_4 ⟨Nat.le_of_ble_eq_true rfl, Nat.le_of_ble_eq_true rfl⟩) hP hD hS hA [0] [] rfl rfl (by decide) (by decide) (fun r_ w_ H locs hq_ hP hD hS => ?_)
  obtain ⟨sa_2, sp_3, so_4, oa_5, op_6, od_7, ow_8, ol_9, s0_10, d0_11, k0_12, s1_13, d1_14, k1_15, s2_16, d2_17, k2_18, rfl, rfl⟩ := hq_
  have hP : va_P D vwCl [(q_1, ob 3 [.ref sa_2, .ref so_4, .ref oa_5]), (sa_2, ob 1 [.ref sp_3, iv 8, iv 0, iv 2, iv 0, iv 0, iv 0]), (sp_3, ar cI 5 ((fun _ => 100))), (so_4, .inl (cS, 3, .inr (.inr (.inr (.inr (va_up (va_up (va_up (fun _ => none) (zI 0).toNatClampNeg (some s0_10)) (zI 1).toNatClampNeg (some s1_13)) (zI 2).toNatClampNeg (some s2_16))))))), (oa_5, ob 0 [.ref op_6, .ref od_7, .ref ow_8, .ref ol_9, iv 0, iv 0, iv 0, iv 0, iv 0, iv 0, iv 0, iv 0]), (op_6, ar cI 5 ((fun _ => 0))), (od_7, ar cI 5 ((fun _ => 0))), (ow_8, ar cI 3050 ((fun _ => 0))), (ol_9, ar cI 6 ((fun _ => 0))), (s0_10, ob 2 [.ref d0_11, .ref k0_12, iv 0, iv (-1), iv 0]), (d0_11, ar cI 5 ((fun _ => 0))), (k0_12, ar cI 3 ((fun _ => 0))), (s1_13, ob 2 [.ref d1_14, .ref k1_15, iv 0, iv (-1), iv 0]), (d1_14, ar cI 5 ((fun _ => 0))), (k1_15, ar cI 3 ((fun _ => 0))), (s2_16, ob 2 [.ref d2_17, .ref k2_18, iv 0, iv (-1), iv 0]), (d2_17, ar cI 5 ((fun _ => 0))), (k2_18, ar cI 3 ((fun _ => 0)))] H := hP
  have hD : va_D A [(q_1, ob 3 [.ref sa_2, .ref so_4, .ref oa_5]), (sa_2, ob 1 [.ref sp_3, iv 8, iv 0, iv 2, iv 0, iv 0, iv 0]), (sp_3, ar cI 5 ((fun _ => 100))), (so_4, .inl (cS, 3, .inr (.inr (.inr (.inr (va_up (va_up (va_up (fun _ => none) (zI 0).toNatClampNeg (some s0_10)) (zI 1).toNatClampNeg (some s1_13)) (zI 2).toNatClampNeg (some s2_16))))))), (oa_5, ob 0 [.ref op_6, .ref od_7, .ref ow_8, .ref ol_9, iv 0, iv 0, iv 0, iv 0, iv 0, iv 0, iv 0, iv 0]), (op_6, ar cI 5 ((fun _ => 0))), (od_7, ar cI 5 ((fun _ => 0))), (ow_8, ar cI 3050 ((fun _ => 0))), (ol_9, ar cI 6 ((fun _ => 0))), (s0_10, ob 2 [.ref d0_11, .ref k0_12, iv 0, iv (-1), iv 0]), (d0_11, ar cI 5 ((fun _ => 0))), (k0_12, ar cI 3 ((fun _ => 0))), (s1_13, ob 2 [.ref d1_14, .ref k1_15, iv 0, iv (-1), iv 0]), (d1_14, ar cI 5 ((fun _ => 0))), (k1_15, ar cI 3 ((fun _ => 0))), (s2_16, ob 2 [.ref d2_17, .ref k2_18, iv 0, iv (-1), iv 0]), (d2_17, ar cI 5 ((fun _ => 0))), (k2_18, ar cI 3 ((fun _ => 0)))] := hD
  refine lv_astore_n (lv' := [(1, .ref q_1), (0, .ref scr)]) hx hb dL_law_7 rfl hl (by decide) rfl (fun ls hl => ?_)
  refine va_new (ci := 3) (fs := [.null, .null, .null]) (C := RX3) (T := TX3) (N := 3) hx hb hts inX3 tyX3 tyX3_ok hown w0 w1 w2 hK hP hD hS hA rfl (fun j hj => by rcases (show j = 0 ∨ j = 1 ∨ j = 2 by omega) with rfl | rfl | rfl <;> rfl) (Nat.le_of_ble_eq_true rfl) (Nat.le_of_ble_eq_true rfl) dL_law_8 (fun q_19 H hP hD hS => ?_)
  have hP : va_P D vwCl [(q_1, ob 3 [.ref sa_2, .ref so_4, .ref oa_5]), (sa_2, ob 1 [.ref sp_3, iv 8, iv 0, iv 2, iv 0, iv 0, iv 0]), (sp_3, ar cI 5 ((fun _ => 100))), (so_4, .inl (cS, 3, .inr (.inr (.inr (.inr (va_up (va_up (va_up (fun _ => none) (zI 0).toNatClampNeg (some s0_10)) (zI 1).toNatClampNeg (some s1_13)) (zI 2).toNatClampNeg (some s2_16))))))), (oa_5, ob 0 [.ref op_6, .ref od_7, .ref ow_8, .ref ol_9, iv 0, iv 0, iv 0, iv 0, iv 0, iv 0, iv 0, iv 0]), (op_6, ar cI 5 ((fun _ => 0))), (od_7, ar cI 5 ((fun _ => 0))), (ow_8, ar cI 3050 ((fun _ => 0))), (ol_9, ar cI 6 ((fun _ => 0))), (s0_10, ob 2 [.ref d0_11, .ref k0_12, iv 0, iv (-1), iv 0]), (d0_11, ar cI 5 ((fun _ => 0))), (k0_12, ar cI 3 ((fun _ => 0))), (s1_13, ob 2 [.ref d1_14, .ref k1_15, iv 0, iv (-1), iv 0]), (d1_14, ar cI 5 ((fun _ => 0))), (k1_15, ar cI 3 ((fun _ => 0))), (s2_16, ob 2 [.ref d2_17, .ref k2_18, iv 0, iv (-1), iv 0]), (d2_17, ar cI 5 ((fun _ => 0))), (k2_18, ar cI 3 ((fun _ => 0))), (q_19, ob 3 [.null, .null, .null])] H := hP
  have hD : va_D A [(q_1, ob 3 [.ref sa_2, .ref so_4, .ref oa_5]), (sa_2, ob 1 [.ref sp_3, iv 8, iv 0, iv 2, iv 0, iv 0, iv 0]), (sp_3, ar cI 5 ((fun _ => 100))), (so_4, .inl (cS, 3, .inr (.inr (.inr (.inr (va_up (va_up (va_up (fun _ => none) (zI 0).toNatClampNeg (some s0_10)) (zI 1).toNatClampNeg (some s1_13)) (zI 2).toNatClampNeg (some s2_16))))))), (oa_5, ob 0 [.ref op_6, .ref od_7, .ref ow_8, .ref ol_9, iv 0, iv 0, iv 0, iv 0, iv 0, iv 0, iv 0, iv 0]), (op_6, ar cI 5 ((fun _ => 0))), (od_7, ar cI 5 ((fun _ => 0))), (ow_8, ar cI 3050 ((fun _ => 0))), (ol_9, ar cI 6 ((fun _ => 0))), (s0_10, ob 2 [.ref d0_11, .ref k0_12, iv 0, iv (-1), iv 0]), (d0_11, ar cI 5 ((fun _ => 0))), (k0_12, ar cI 3 ((fun _ => 0))), (s1_13, ob 2 [.ref d1_14, .ref k1_15, iv 0, iv (-1), iv 0]), (d1_14, ar cI 5 ((fun _ => 0))), (k1_15, ar cI 3 ((fun _ => 0))), (s2_16, ob 2 [.ref d2_17, .ref k2_18, iv 0, iv (-1), iv 0]), (d2_17, ar cI 5 ((fun _ => 0))), (k2_18, ar cI 3 ((fun _ => 0))), (q_19, ob 3 [.null, .null, .null])] := hD
  refine lv_dup hx hb dL_law_11 rfl ?_
  refine ms_M (wc := [(q_19, ob 3 [.null, .null, .null])]) (wr := [(q_1, ob 3 [.ref sa_2, .ref so_4, .ref oa_5]), (sa_2, ob 1 [.ref sp_3, iv 8, iv 0, iv 2, iv 0, iv 0, iv 0]), (sp_3, ar cI 5 ((fun _ => 100))), (so_4, .inl (cS, 3, .inr (.inr (.inr (.inr (va_up (va_up (va_up (fun _ => none) (zI 0).toNatClampNeg (some s0_10)) (zI 1).toNatClampNeg (some s1_13)) (zI 2).toNatClampNeg (some s2_16))))))), (oa_5, ob 0 [.ref op_6, .ref od_7, .ref ow_8, .ref ol_9, iv 0, iv 0, iv 0, iv 0, iv 0, iv 0, iv 0, iv 0]), (op_6, ar cI 5 ((fun _ => 0))), (od_7, ar cI 5 ((fun _ => 0))), (ow_8, ar cI 3050 ((fun _ => 0))), (ol_9, ar cI 6 ((fun _ => 0))), (s0_10, ob 2 [.ref d0_11, .ref k0_12, iv 0, iv (-1), iv 0]), (d0_11, ar cI 5 ((fun _ => 0))), (k0_12, ar cI 3 ((fun _ => 0))), (s1_13, ob 2 [.ref d1_14, .ref k1_15, iv 0, iv (-1), iv 0]), (d1_14, ar cI 5 ((fun _ => 0))), (k1_15, ar cI 3 ((fun _ => 0))), (s2_16, ob 2 [.ref d2_17, .ref k2_18, iv 0, iv (-1), iv 0]), (d2_17, ar cI 5 ((fun _ => 0))), (k2_18, ar cI 3 ((fun _ => 0)))]) (va_runI (As := []) (rest := [.ref q_19]) ⟨hx, hb, hml, hown, hts⟩ ((mt_X3_init l D cI cS cJ q_19) H.size) (cwI 0 hts gL_law_X3_init rfl rfl rfl w2 w3 w4 rfl (by decide +kernel) ⟨Nat.le_of_ble_eq_true rfl, Nat.le_of_ble_eq_true rfl⟩) (pcMA_S hE hK (hP.sub (ws' := [(q_19, ob 3 [.null, .null, .null])]) [18] rfl) (hD.sub (ws' := [(q_19, ob 3 [.null, .null, .null])]) [18] (by decide) rfl) hAO) rfl rfl hl.1 rfl (lv_room (Nat.le_of_ble_eq_true rfl)) dL_law_12 ⟨Nat.le_of_ble_eq_true rfl, Nat.le_of_ble_eq_true rfl⟩) hP hD hS hA [18] [0, 1, 2, 3, 4, 5, 6, 7, 8, 9, 10, 11, 12, 13, 14, 15, 16, 17] rfl rfl (by decide) (by decide) (fun r_ w_ H locs hq_ hP hD hS => ?_)
  obtain ⟨sa_20, sp_21, so_22, oa_23, op_24, od_25, ow_26, ol_27, s0_28, d0_29, k0_30, s1_31, d1_32, k1_33, s2_34, d2_35, k2_36, rfl, rfl⟩ := hq_
  have hP : va_P D vwCl [(q_1, ob 3 [.ref sa_2, .ref so_4, .ref oa_5]), (sa_2, ob 1 [.ref sp_3, iv 8, iv 0, iv 2, iv 0, iv 0, iv 0]), (sp_3, ar cI 5 ((fun _ => 100))), (so_4, .inl (cS, 3, .inr (.inr (.inr (.inr (va_up (va_up (va_up (fun _ => none) (zI 0).toNatClampNeg (some s0_10)) (zI 1).toNatClampNeg (some s1_13)) (zI 2).toNatClampNeg (some s2_16))))))), (oa_5, ob 0 [.ref op_6, .ref od_7, .ref ow_8, .ref ol_9, iv 0, iv 0, iv 0, iv 0, iv 0, iv 0, iv 0, iv 0]), (op_6, ar cI 5 ((fun _ => 0))), (od_7, ar cI 5 ((fun _ => 0))), (ow_8, ar cI 3050 ((fun _ => 0))), (ol_9, ar cI 6 ((fun _ => 0))), (s0_10, ob 2 [.ref d0_11, .ref k0_12, iv 0, iv (-1), iv 0]), (d0_11, ar cI 5 ((fun _ => 0))), (k0_12, ar cI 3 ((fun _ => 0))), (s1_13, ob 2 [.ref d1_14, .ref k1_15, iv 0, iv (-1), iv 0]), (d1_14, ar cI 5 ((fun _ => 0))), (k1_15, ar cI 3 ((fun _ => 0))), (s2_16, ob 2 [.ref d2_17, .ref k2_18, iv 0, iv (-1), iv 0]), (d2_17, ar cI 5 ((fun _ => 0))), (k2_18, ar cI 3 ((fun _ => 0))), (q_19, ob 3 [.ref sa_20, .ref so_22, .ref oa_23]), (sa_20, ob 1 [.ref sp_21, iv 8, iv 0, iv 2, iv 0, iv 0, iv 0]), (sp_21, ar cI 5 ((fun _ => 100))), (so_22, .inl (cS, 3, .inr (.inr (.inr (.inr (va_up (va_up (va_up (fun _ => none) (zI 0).toNatClampNeg (some s0_28)) (zI 1).toNatClampNeg (some s1_31)) (zI 2).toNatClampNeg (some s2_34))))))), (oa_23, ob 0 [.ref op_24, .ref od_25, .ref ow_26, .ref ol_27, iv 0, iv 0, iv 0, iv 0, iv 0, iv 0, iv 0, iv 0]), (op_24, ar cI 5 ((fun _ => 0))), (od_25, ar cI 5 ((fun _ => 0))), (ow_26, ar cI 3050 ((fun _ => 0))), (ol_27, ar cI 6 ((fun _ => 0))), (s0_28, ob 2 [.ref d0_29, .ref k0_30, iv 0, iv (-1), iv 0]), (d0_29, ar cI 5 ((fun _ => 0))), (k0_30, ar cI 3 ((fun _ => 0))), (s1_31, ob 2 [.ref d1_32, .ref k1_33, iv 0, iv (-1), iv 0]), (d1_32, ar cI 5 ((fun _ => 0))), (k1_33, ar cI 3 ((fun _ => 0))), (s2_34, ob 2 [.ref d2_35, .ref k2_36, iv 0, iv (-1), iv 0]), (d2_35, ar cI 5 ((fun _ => 0))), (k2_36, ar cI 3 ((fun _ => 0)))] H := hP
  have hD : va_D A [(q_1, ob 3 [.ref sa_2, .ref so_4, .ref oa_5]), (sa_2, ob 1 [.ref sp_3, iv 8, iv 0, iv 2, iv 0, iv 0, iv 0]), (sp_3, ar cI 5 ((fun _ => 100))), (so_4, .inl (cS, 3, .inr (.inr (.inr (.inr (va_up (va_up (va_up (fun _ => none) (zI 0).toNatClampNeg (some s0_10)) (zI 1).toNatClampNeg (some s1_13)) (zI 2).toNatClampNeg (some s2_16))))))), (oa_5, ob 0 [.ref op_6, .ref od_7, .ref ow_8, .ref ol_9, iv 0, iv 0, iv 0, iv 0, iv 0, iv 0, iv 0, iv 0]), (op_6, ar cI 5 ((fun _ => 0))), (od_7, ar cI 5 ((fun _ => 0))), (ow_8, ar cI 3050 ((fun _ => 0))), (ol_9, ar cI 6 ((fun _ => 0))), (s0_10, ob 2 [.ref d0_11, .ref k0_12, iv 0, iv (-1), iv 0]), (d0_11, ar cI 5 ((fun _ => 0))), (k0_12, ar cI 3 ((fun _ => 0))), (s1_13, ob 2 [.ref d1_14, .ref k1_15, iv 0, iv (-1), iv 0]), (d1_14, ar cI 5 ((fun _ => 0))), (k1_15, ar cI 3 ((fun _ => 0))), (s2_16, ob 2 [.ref d2_17, .ref k2_18, iv 0, iv (-1), iv 0]), (d2_17, ar cI 5 ((fun _ => 0))), (k2_18, ar cI 3 ((fun _ => 0))), (q_19, ob 3 [.ref sa_20, .ref so_22, .ref oa_23]), (sa_20, ob 1 [.ref sp_21, iv 8, iv 0, iv 2, iv 0, iv 0, iv 0]), (sp_21, ar cI 5 ((fun _ => 100))), (so_22, .inl (cS, 3, .inr (.inr (.inr (.inr (va_up (va_up (va_up (fun _ => none) (zI 0).toNatClampNeg (some s0_28)) (zI 1).toNatClampNeg (some s1_31)) (zI 2).toNatClampNeg (some s2_34))))))), (oa_23, ob 0 [.ref op_24, .ref od_25, .ref ow_26, .ref ol_27, iv 0, iv 0, iv 0, iv 0, iv 0, iv 0, iv 0, iv 0]), (op_24, ar cI 5 ((fun _ => 0))), (od_25, ar cI 5 ((fun _ => 0))), (ow_26, ar cI 3050 ((fun _ => 0))), (ol_27, ar cI 6 ((fun _ => 0))), (s0_28, ob 2 [.ref d0_29, .ref k0_30, iv 0, iv (-1), iv 0]), (d0_29, ar cI 5 ((fun _ => 0))), (k0_30, ar cI 3 ((fun _ => 0))), (s1_31, ob 2 [.ref d1_32, .ref k1_33, iv 0, iv (-1), iv 0]), (d1_32, ar cI 5 ((fun _ => 0))), (k1_33, ar cI 3 ((fun _ => 0))), (s2_34, ob 2 [.ref d2_35, .ref k2_36, iv 0, iv (-1), iv 0]), (d2_35, ar cI 5 ((fun _ => 0))), (k2_36, ar cI 3 ((fun _ => 0)))] := hD
  refine lv_astore_n (lv' := [(2, .ref q_19), (1, .ref q_1), (0, .ref scr)]) hx hb dL_law_15 rfl hl (by decide) rfl (fun ls hl => ?_)
  refine lv_iconst (v := zI 1) hx hb dL_law_16 rfl ?_
  refine lv_aload_n hx hb dL_law_17 rfl (lv_at hl 2 rfl) ?_
  refine lv_iconst (v := zI 0) hx hb dL_law_18 rfl ?_
  refine ms_D (va_runS (As := [.ref scr, iv 0]) (rest := [iv 1]) ⟨hx, hb, hml, hown, hts⟩ (mt_L_drawn l (b := scr) (xs := xs) hL (k := 0) (by omega)) (va_cwS 2 hts gL_law_L_drawn rfl rfl rfl (by decide +kernel) ⟨Nat.le_of_ble_eq_true rfl, Nat.le_of_ble_eq_true rfl⟩) (pcD_S hX hbl hbA hS) rfl rfl hl.1 rfl (lv_room (Nat.le_of_ble_eq_true rfl)) dL_law_19 ⟨Nat.le_of_ble_eq_true rfl, Nat.le_of_ble_eq_true rfl⟩) (fun dr dr0 dr1 => ?_)
  refine lv_iconst (v := zI 2) hx hb dL_law_22 rfl ?_
  refine i_irem hx hb (by omega) (by omega) (by decide) (by decide) dL_law_23 ?_
  refine i_iadd hx hb dL_law_24 ?_
  refine i_name (fun g hgq => ?_)
  have bg : g = 1 ∨ g = 2 := by omega
  have hg := bg
  refine lv_istore_n (lv' := [(3, iv g), (2, .ref q_19), (1, .ref q_1), (0, .ref scr)]) hx hb dL_law_25 rfl hl (by decide) rfl (fun ls hl => ?_)
  refine lv_iconst (v := zI 1) hx hb dL_law_26 rfl ?_
  refine lv_istore (lv' := [(4, iv 1), (3, iv g), (2, .ref q_19), (1, .ref q_1), (0, .ref scr)]) hx hb dL_law_27 hl (by decide) rfl (fun ls hl => ?_)
  refine lv_iconst (v := zI 1) hx hb dL_law_29 rfl ?_
  refine lv_istore (lv' := [(5, iv 1), (4, iv 1), (3, iv g), (2, .ref q_19), (1, .ref q_1), (0, .ref scr)]) hx hb dL_law_30 hl (by decide) rfl (fun ls hl => ?_)
  subst hA9
  have hW9 : WE D vwCl [(q_1, ob 3 [.ref sa_2, .ref so_4, .ref oa_5]), (sa_2, ob 1 [.ref sp_3, iv 8, iv 0, iv 2, iv 0, iv 0, iv 0]), (sp_3, ar cI 5 ((fun _ => 100))), (so_4, .inl (cS, 3, .inr (.inr (.inr (.inr (va_up (va_up (va_up (fun _ => none) (zI 0).toNatClampNeg (some s0_10)) (zI 1).toNatClampNeg (some s1_13)) (zI 2).toNatClampNeg (some s2_16))))))), (oa_5, ob 0 [.ref op_6, .ref od_7, .ref ow_8, .ref ol_9, iv 0, iv 0, iv 0, iv 0, iv 0, iv 0, iv 0, iv 0]), (op_6, ar cI 5 ((fun _ => 0))), (od_7, ar cI 5 ((fun _ => 0))), (ow_8, ar cI 3050 ((fun _ => 0))), (ol_9, ar cI 6 ((fun _ => 0))), (s0_10, ob 2 [.ref d0_11, .ref k0_12, iv 0, iv (-1), iv 0]), (d0_11, ar cI 5 ((fun _ => 0))), (k0_12, ar cI 3 ((fun _ => 0))), (s1_13, ob 2 [.ref d1_14, .ref k1_15, iv 0, iv (-1), iv 0]), (d1_14, ar cI 5 ((fun _ => 0))), (k1_15, ar cI 3 ((fun _ => 0))), (s2_16, ob 2 [.ref d2_17, .ref k2_18, iv 0, iv (-1), iv 0]), (d2_17, ar cI 5 ((fun _ => 0))), (k2_18, ar cI 3 ((fun _ => 0))), (q_19, ob 3 [.ref sa_20, .ref so_22, .ref oa_23]), (sa_20, ob 1 [.ref sp_21, iv 8, iv 0, iv 2, iv 0, iv 0, iv 0]), (sp_21, ar cI 5 ((fun _ => 100))), (so_22, .inl (cS, 3, .inr (.inr (.inr (.inr (va_up (va_up (va_up (fun _ => none) (zI 0).toNatClampNeg (some s0_28)) (zI 1).toNatClampNeg (some s1_31)) (zI 2).toNatClampNeg (some s2_34))))))), (oa_23, ob 0 [.ref op_24, .ref od_25, .ref ow_26, .ref ol_27, iv 0, iv 0, iv 0, iv 0, iv 0, iv 0, iv 0, iv 0]), (op_24, ar cI 5 ((fun _ => 0))), (od_25, ar cI 5 ((fun _ => 0))), (ow_26, ar cI 3050 ((fun _ => 0))), (ol_27, ar cI 6 ((fun _ => 0))), (s0_28, ob 2 [.ref d0_29, .ref k0_30, iv 0, iv (-1), iv 0]), (d0_29, ar cI 5 ((fun _ => 0))), (k0_30, ar cI 3 ((fun _ => 0))), (s1_31, ob 2 [.ref d1_32, .ref k1_33, iv 0, iv (-1), iv 0]), (d1_32, ar cI 5 ((fun _ => 0))), (k1_33, ar cI 3 ((fun _ => 0))), (s2_34, ob 2 [.ref d2_35, .ref k2_36, iv 0, iv (-1), iv 0]), (d2_35, ar cI 5 ((fun _ => 0))), (k2_36, ar cI 3 ((fun _ => 0)))] (CW cI cS (aF q_1 sa_2 sp_3 so_4 oa_5 op_6 od_7 ow_8 ol_9 s0_10 s1_13 s2_16 d0_11 d1_14 d2_17 k0_12 k1_15 k2_18) x_new (fun _ _ => 0) ++ CW cI cS (aF q_19 sa_20 sp_21 so_22 oa_23 op_24 od_25 ow_26 ol_27 s0_28 s1_31 s2_34 d0_29 d1_32 d2_35 k0_30 k1_33 k2_36) x_new (fun _ _ => 0)) := ⟨ce_of (by rfl), ⟨ce_of (by rfl), ⟨ce_ar (fun j h0 h1 => rfl), ⟨ce_q (fun j hj => by rcases (show j = 0 ∨ j = 1 ∨ j = 2 by omega) with rfl | rfl | rfl <;> simp only [va_up, show (zI 0).toNatClampNeg = 0 by decide, show (zI 1).toNatClampNeg = 1 by decide, show (zI 2).toNatClampNeg = 2 by decide] <;> rfl), ⟨ce_of (by rfl), ⟨ce_ar (fun j h0 h1 => rfl), ⟨ce_ar (fun j h0 h1 => rfl), ⟨ce_ar (fun j h0 h1 => rfl), ⟨ce_ar (fun j h0 h1 => rfl), ⟨ce_of (by rfl), ⟨ce_ar (fun j h0 h1 => rfl), ⟨ce_ar (fun j h0 h1 => rfl), ⟨ce_of (by rfl), ⟨ce_ar (fun j h0 h1 => rfl), ⟨ce_ar (fun j h0 h1 => rfl), ⟨ce_of (by rfl), ⟨ce_ar (fun j h0 h1 => rfl), ⟨ce_ar (fun j h0 h1 => rfl), ⟨ce_of (by rfl), ⟨ce_of (by rfl), ⟨ce_ar (fun j h0 h1 => rfl), ⟨ce_q (fun j hj => by rcases (show j = 0 ∨ j = 1 ∨ j = 2 by omega) with rfl | rfl | rfl <;> simp only [va_up, show (zI 0).toNatClampNeg = 0 by decide, show (zI 1).toNatClampNeg = 1 by decide, show (zI 2).toNatClampNeg = 2 by decide] <;> rfl), ⟨ce_of (by rfl), ⟨ce_ar (fun j h0 h1 => rfl), ⟨ce_ar (fun j h0 h1 => rfl), ⟨ce_ar (fun j h0 h1 => rfl), ⟨ce_ar (fun j h0 h1 => rfl), ⟨ce_of (by rfl), ⟨ce_ar (fun j h0 h1 => rfl), ⟨ce_ar (fun j h0 h1 => rfl), ⟨ce_of (by rfl), ⟨ce_ar (fun j h0 h1 => rfl), ⟨ce_ar (fun j h0 h1 => rfl), ⟨ce_of (by rfl), ⟨ce_ar (fun j h0 h1 => rfl), ⟨ce_ar (fun j h0 h1 => rfl), trivial⟩⟩⟩⟩⟩⟩⟩⟩⟩⟩⟩⟩⟩⟩⟩⟩⟩⟩⟩⟩⟩⟩⟩⟩⟩⟩⟩⟩⟩⟩⟩⟩⟩⟩⟩⟩
  have hP9 : va_P D vwCl (CW cI cS (aF q_1 sa_2 sp_3 so_4 oa_5 op_6 od_7 ow_8 ol_9 s0_10 s1_13 s2_16 d0_11 d1_14 d2_17 k0_12 k1_15 k2_18) x_new (fun _ _ => 0) ++ CW cI cS (aF q_19 sa_20 sp_21 so_22 oa_23 op_24 od_25 ow_26 ol_27 s0_28 s1_31 s2_34 d0_29 d1_32 d2_35 k0_30 k1_33 k2_36) x_new (fun _ _ => 0)) H := hW9.P (hP.sub (ws' := [(q_1, ob 3 [.ref sa_2, .ref so_4, .ref oa_5]), (sa_2, ob 1 [.ref sp_3, iv 8, iv 0, iv 2, iv 0, iv 0, iv 0]), (sp_3, ar cI 5 ((fun _ => 100))), (so_4, .inl (cS, 3, .inr (.inr (.inr (.inr (va_up (va_up (va_up (fun _ => none) (zI 0).toNatClampNeg (some s0_10)) (zI 1).toNatClampNeg (some s1_13)) (zI 2).toNatClampNeg (some s2_16))))))), (oa_5, ob 0 [.ref op_6, .ref od_7, .ref ow_8, .ref ol_9, iv 0, iv 0, iv 0, iv 0, iv 0, iv 0, iv 0, iv 0]), (op_6, ar cI 5 ((fun _ => 0))), (od_7, ar cI 5 ((fun _ => 0))), (ow_8, ar cI 3050 ((fun _ => 0))), (ol_9, ar cI 6 ((fun _ => 0))), (s0_10, ob 2 [.ref d0_11, .ref k0_12, iv 0, iv (-1), iv 0]), (d0_11, ar cI 5 ((fun _ => 0))), (k0_12, ar cI 3 ((fun _ => 0))), (s1_13, ob 2 [.ref d1_14, .ref k1_15, iv 0, iv (-1), iv 0]), (d1_14, ar cI 5 ((fun _ => 0))), (k1_15, ar cI 3 ((fun _ => 0))), (s2_16, ob 2 [.ref d2_17, .ref k2_18, iv 0, iv (-1), iv 0]), (d2_17, ar cI 5 ((fun _ => 0))), (k2_18, ar cI 3 ((fun _ => 0))), (q_19, ob 3 [.ref sa_20, .ref so_22, .ref oa_23]), (sa_20, ob 1 [.ref sp_21, iv 8, iv 0, iv 2, iv 0, iv 0, iv 0]), (sp_21, ar cI 5 ((fun _ => 100))), (so_22, .inl (cS, 3, .inr (.inr (.inr (.inr (va_up (va_up (va_up (fun _ => none) (zI 0).toNatClampNeg (some s0_28)) (zI 1).toNatClampNeg (some s1_31)) (zI 2).toNatClampNeg (some s2_34))))))), (oa_23, ob 0 [.ref op_24, .ref od_25, .ref ow_26, .ref ol_27, iv 0, iv 0, iv 0, iv 0, iv 0, iv 0, iv 0, iv 0]), (op_24, ar cI 5 ((fun _ => 0))), (od_25, ar cI 5 ((fun _ => 0))), (ow_26, ar cI 3050 ((fun _ => 0))), (ol_27, ar cI 6 ((fun _ => 0))), (s0_28, ob 2 [.ref d0_29, .ref k0_30, iv 0, iv (-1), iv 0]), (d0_29, ar cI 5 ((fun _ => 0))), (k0_30, ar cI 3 ((fun _ => 0))), (s1_31, ob 2 [.ref d1_32, .ref k1_33, iv 0, iv (-1), iv 0]), (d1_32, ar cI 5 ((fun _ => 0))), (k1_33, ar cI 3 ((fun _ => 0))), (s2_34, ob 2 [.ref d2_35, .ref k2_36, iv 0, iv (-1), iv 0]), (d2_35, ar cI 5 ((fun _ => 0))), (k2_36, ar cI 3 ((fun _ => 0)))]) [0, 1, 2, 3, 4, 5, 6, 7, 8, 9, 10, 11, 12, 13, 14, 15, 16, 17, 18, 19, 20, 21, 22, 23, 24, 25, 26, 27, 28, 29, 30, 31, 32, 33, 34, 35] rfl)
  have hD9 : va_D (fun q : Nat => s.heap.size ≤ q) (CW cI cS (aF q_1 sa_2 sp_3 so_4 oa_5 op_6 od_7 ow_8 ol_9 s0_10 s1_13 s2_16 d0_11 d1_14 d2_17 k0_12 k1_15 k2_18) x_new (fun _ _ => 0) ++ CW cI cS (aF q_19 sa_20 sp_21 so_22 oa_23 op_24 od_25 ow_26 ol_27 s0_28 s1_31 s2_34 d0_29 d1_32 d2_35 k0_30 k1_33 k2_36) x_new (fun _ _ => 0)) := hW9.D (hD.sub (ws' := [(q_1, ob 3 [.ref sa_2, .ref so_4, .ref oa_5]), (sa_2, ob 1 [.ref sp_3, iv 8, iv 0, iv 2, iv 0, iv 0, iv 0]), (sp_3, ar cI 5 ((fun _ => 100))), (so_4, .inl (cS, 3, .inr (.inr (.inr (.inr (va_up (va_up (va_up (fun _ => none) (zI 0).toNatClampNeg (some s0_10)) (zI 1).toNatClampNeg (some s1_13)) (zI 2).toNatClampNeg (some s2_16))))))), (oa_5, ob 0 [.ref op_6, .ref od_7, .ref ow_8, .ref ol_9, iv 0, iv 0, iv 0, iv 0, iv 0, iv 0, iv 0, iv 0]), (op_6, ar cI 5 ((fun _ => 0))), (od_7, ar cI 5 ((fun _ => 0))), (ow_8, ar cI 3050 ((fun _ => 0))), (ol_9, ar cI 6 ((fun _ => 0))), (s0_10, ob 2 [.ref d0_11, .ref k0_12, iv 0, iv (-1), iv 0]), (d0_11, ar cI 5 ((fun _ => 0))), (k0_12, ar cI 3 ((fun _ => 0))), (s1_13, ob 2 [.ref d1_14, .ref k1_15, iv 0, iv (-1), iv 0]), (d1_14, ar cI 5 ((fun _ => 0))), (k1_15, ar cI 3 ((fun _ => 0))), (s2_16, ob 2 [.ref d2_17, .ref k2_18, iv 0, iv (-1), iv 0]), (d2_17, ar cI 5 ((fun _ => 0))), (k2_18, ar cI 3 ((fun _ => 0))), (q_19, ob 3 [.ref sa_20, .ref so_22, .ref oa_23]), (sa_20, ob 1 [.ref sp_21, iv 8, iv 0, iv 2, iv 0, iv 0, iv 0]), (sp_21, ar cI 5 ((fun _ => 100))), (so_22, .inl (cS, 3, .inr (.inr (.inr (.inr (va_up (va_up (va_up (fun _ => none) (zI 0).toNatClampNeg (some s0_28)) (zI 1).toNatClampNeg (some s1_31)) (zI 2).toNatClampNeg (some s2_34))))))), (oa_23, ob 0 [.ref op_24, .ref od_25, .ref ow_26, .ref ol_27, iv 0, iv 0, iv 0, iv 0, iv 0, iv 0, iv 0, iv 0]), (op_24, ar cI 5 ((fun _ => 0))), (od_25, ar cI 5 ((fun _ => 0))), (ow_26, ar cI 3050 ((fun _ => 0))), (ol_27, ar cI 6 ((fun _ => 0))), (s0_28, ob 2 [.ref d0_29, .ref k0_30, iv 0, iv (-1), iv 0]), (d0_29, ar cI 5 ((fun _ => 0))), (k0_30, ar cI 3 ((fun _ => 0))), (s1_31, ob 2 [.ref d1_32, .ref k1_33, iv 0, iv (-1), iv 0]), (d1_32, ar cI 5 ((fun _ => 0))), (k1_33, ar cI 3 ((fun _ => 0))), (s2_34, ob 2 [.ref d2_35, .ref k2_36, iv 0, iv (-1), iv 0]), (d2_35, ar cI 5 ((fun _ => 0))), (k2_36, ar cI 3 ((fun _ => 0)))]) [0, 1, 2, 3, 4, 5, 6, 7, 8, 9, 10, 11, 12, 13, 14, 15, 16, 17, 18, 19, 20, 21, 22, 23, 24, 25, 26, 27, 28, 29, 30, 31, 32, 33, 34, 35] (by decide) rfl)
  refine W.widen (k := 60) (n := 20000) (Nat.le_of_ble_eq_true rfl) (Nat.le_of_ble_eq_true rfl) ?_
  exact law_loop hst hC9 hL hg 120 1 (by omega) (by omega) (by omega) x_new (fun _ _ => 0) x_new (fun _ _ => 0) H _ 60 20000 tn_new ix_new ix_new (by omega) (by omega) hP9 hD9 hS ls (lv_sub hl [0, 1, 2, 3, 4, 5] rfl)

set_option maxHeartbeats 4000000 in
theorem lw_walk (l : Launch) (hflags : l.flags = flags0) (b : Addr) (xs : List Int32) : MetFree l x (headSpec (Jvm.Cond.code x code maxLocals ret :: tables_1) room_1) (lw_P b xs) (fun _ _ _ _ _ => True) lw_Q := by
  refine MetFree.of_bodyS (code := code) (maxLocals := maxLocals) (ret := ret) (by decide) ?_ ?_
  · intro args s m h hn
    obtain ⟨meth, c, h1, h2, h3, h4, h5, h6, -, -⟩ := Cond.code_spec hn (atoms_spec (ws := Jvm.Cond.code x code maxLocals ret :: tables_1) h _ List.mem_cons_self)
    exact ⟨meth, c, h1, h2, h3, h4, h5, h6⟩
  · intro p e s m args below meth c s₁ B hml0 hP _
    obtain ⟨rfl, hx, hbd, hgv⟩ := hP
    obtain ⟨scr, harrAt, hlist, hof, hsmall⟩ := hx
    obtain ⟨hcb, hkn, -, -⟩ := State.arrayAt?_spec harrAt
    have hown : s.vm.findClass R_law = some m.cls := findClass_of_methodNamed B.named
    have hts0 : ∀ c ∈ (Jvm.Cond.code x code maxLocals ret :: tables_1), c.before #[Value.ref b] s = true := atoms_spec (ws := Jvm.Cond.code x code maxLocals ret :: tables_1) B.pre
    have hts : ∀ w ∈ lw_tbl, w.before #[Value.ref b] s = true := k2_hts_sels lw_privs (fun w hw => hts0 w (List.mem_cons_of_mem _ hw)) lw_privs_ok
    have hml : c.maxLocals = 13 := B.maxLocals_eq (hts0 _ List.mem_cons_self)
    have X₀ : Stand p l e room_1 s m #[Value.ref b] below meth c s₁ [] 0 0 := Stand.of_body B
    have hh0 : s₁.heap = s.heap := by rw [B.state]; rfl
    have hsz : scr.slots.size = xs.length := by rw [← Array.length_toList, hlist, List.length_map]
    have hval : ∀ j : Nat, j < xs.length → scr.slots[j]? = some (.int (xs.getD j 0)) := fun j hj => by
      rw [← Array.getElem?_toList, hlist]
      simp [hj]
    have hbl : b < s.heap.size := (Array.getElem?_eq_some_iff.mp hcb).1
    have hX : va_X b xs.length (fun j => xs.getD j 0) s s.heap := ⟨scr, hcb, hof, hkn, hsz, hval⟩
    have K : W p l e room_1 s m #[Value.ref b] below meth c s₁.heap [] 0 0 (lw_Z below #[Value.ref b] s) (entryFrame m ([Value.ref b] : List Value).toArray 13) := by
      rw [hh0]
      exact whole_start l hflags hbd ⟨B.exec, B.bytes, B.returns, hml, hown, hts, hX, hbl, B.notSynchronized, hgv⟩
    obtain ⟨t, a1, o, b1, b2, b3⟩ := K s₁ rfl X₀
    exact ⟨t, o, a1, b1, b2, b3⟩
theorem lw_pre_spec {args : Array Value} {s : State} (h : (Jvm.Cond.and given_1 narrow_1).before args s = true) (hr : rest_1_c.before args s = true) : ∃ (b : Addr) (xs : List Int32), lw_P b xs args s := by
  have hs := flat_of_before _ h
  have hq := flat_of_before _ hr
  have hc : (Cond.count 1).before args s = true := hs _ (by decide +kernel)
  have harr : (Cond.arrayOf (.arg 0) .int).before args s = true := hs _ (by decide +kernel)
  have hle : (Cond.le (.length (.arg 0)) (.int 260)).before args s = true := hs _ (by decide +kernel)
  have hlen : (Cond.isInt (.length (.arg 0))).before args s = true := hq _ (by decide +kernel)
  have hall : (Cond.all (.arg 0) (.isInt (.elem (.arg 0) (.index 0)))).before args s = true := hq _ (by decide +kernel)
  obtain ⟨b, xs, hb, hx⟩ := State.ints_of_pre rfl harr hlen hall
  have hsm : xs.length < 2 ^ 31 := hx.choose_spec.2.2.2
  have hev : (Term.length (.arg 0)).eval args s none [] s = some (.int xs.length.toInt32) := hx.length_eval hb
  have hv := Cond.le_ints hev (show (Term.int 260).eval args s none [] s = some (.int 260) from rfl)
  have hd : xs.length.toInt32 ≤ 260 := by
    simpa [Cond.before, Cond.holds, hv] using hle
  have hN : xs.length ≤ 260 := (Int32.ofNat_le_ofNat hsm (by decide)).mp (show Int32.ofNat xs.length ≤ Int32.ofNat 260 from hd)
  exact ⟨b, xs, Cond.one_arg hc (show args[0]? = some (.ref b) from hb), hx, hN, h⟩
theorem lw_comes (l : Launch) (hflags : l.flags = flags0) : Comes l x (Jvm.Cond.code x code maxLocals ret :: tables_1) room_1 (fun tb e args s => Calls_1 tb e args s ∧ rest_1 tb e args s ∧ Pre_1 tb e args s)
    (fun _ _ args s o t => lw_Q args s o t) := by
  intro p e ha hc hk s m args below hf hfit hheap happ hpre
  obtain ⟨b, xs, hP⟩ := lw_pre_spec hpre.2.2 hpre.2.1
  obtain ⟨k, o, h1, h2, h3, hQ⟩ := lw_walk l hflags b xs p e ha hc hk s m args below hf ((Spec.applies_iff_loose hf).mp happ).1 hP trivial
  exact ⟨k, o, h1, h2, h3, hQ⟩
theorem lw_frame {s t : State} {o : Outcome} {args : Array Value} (h : Framed s o t [] 600104 7301314) :
    Framed s o t (fieldLocs frame_1_writes args s ++ arrayLocs frame_1_arrays args s ++ staticLocs frame_1_statics s) 600104 7301314 := h
theorem lw_limb (L : Cond) (hL : ∀ (args : Array Value) (s t : State), L.after args s (.returned (some (.int 1))) t = true) :
    ArmFor flags0 classFile x code maxLocals ret World_1 tables_1 room_1 Calls_1 rest_1 Pre_1
      (fun tb e a s o t => postC L tb e a s o t ∧ Framed s o t (fieldLocs frame_1_writes a s ++ arrayLocs frame_1_arrays a s ++ staticLocs frame_1_statics s) 600104 7301314) := by
  intro l hflags _ _ p e ha hc hk s m args below hf hfit hheap happ hpre
  obtain ⟨k, o, h1, h2, h3, rfl, hF⟩ := lw_comes l hflags p e ha hc hk s m args below hf hfit hheap happ hpre
  exact ⟨k, _, h1, h2, h3, hL args s _, lw_frame hF⟩
theorem i_vc : Claimed_1_1 ∧ Claimed_1_2 := ⟨lw_limb limb_1_1 (fun args s t => by simp [limb_1_1, Cond.after, Cond.holds, Cond.value]), lw_limb limb_1_2 (fun args s t => Cond.after_iff.mpr (by
  first | (rw [show limb_1_2 = Cond.eq .result (.int 1) from rfl, Cond.eq_ints (x := 1) (y := 1) rfl rfl]; simp; done) | (simp [limb_1_2, Cond.value, Term.eval]; done)))⟩
