/-! calls -/
theorem pcP_fb {as : List Value} {D : va_G} {tys : List (ClassId × FieldType)} {w : va_W} : FrameBlind (pcP as D tys w) := fun a U g mk h => ⟨h.1, ev.same (s := U) rfl h.2.1, h.2.2.1, va_K.moved (u := U) (U := U.calling g mk a) (Vm.Alike.refl U.vm) h.2.2.2⟩
theorem pcM_fb {sz : Nat} {as : List Value} {D : va_G} {tys : List (ClassId × FieldType)} {w : va_W} : FrameBlind (pcM sz as D tys w) := fun a U g mk h => ⟨h.1, h.2.1, ev.same (s := U) rfl h.2.2.1, h.2.2.2.1, va_K.moved (u := U) (U := U.calling g mk a) (Vm.Alike.refl U.vm) h.2.2.2.2.1, h.2.2.2.2.2⟩
theorem pcT_fb {as : List Value} {D : va_G} {tys : List (ClassId × FieldType)} {w : va_W} : FrameBlind (pcT as D tys w) := fun a U g mk h => ⟨h.1, ev.same (s := U) rfl h.2.1, h.2.2.1, va_K.moved (u := U) (U := U.calling g mk a) (Vm.Alike.refl U.vm) h.2.2.2.1, Zs.moved (u := U) (U := U.calling g mk a) (Vm.Alike.refl U.vm) h.2.2.2.2⟩
theorem pcX_fb {sz : Nat} {as : List Value} {D : va_G} {tys : List (ClassId × FieldType)} {w : va_W} : FrameBlind (pcX sz as D tys w) := fun a U g mk h => ⟨h.1, h.2.1, ev.same (s := U) rfl h.2.2.1, h.2.2.2.1, va_K.moved (u := U) (U := U.calling g mk a) (Vm.Alike.refl U.vm) h.2.2.2.2.1, h.2.2.2.2.2.1, Zs.moved (u := U) (U := U.calling g mk a) (Vm.Alike.refl U.vm) h.2.2.2.2.2.2⟩
section MSA
variable {s : State} {H : Heap} {D : va_G} {tys : List (ClassId × FieldType)} {w : va_W} {As : List Value} {A : Nat → Prop}
theorem pcP_S (hE : ev s) (hK : va_K D vwCl tys s) (hP : va_P D vwCl w H) : PreS s H (pcP As D tys w) As := ⟨pcP_fb, fun U hU hW => ⟨rfl, ev.moved hW hE, by rw [hU]; exact hP, va_K.moved hW.alike hK⟩⟩
theorem pcM_S (hE : ev s) (hK : va_K D vwCl tys s) (hP : va_P D vwCl w H) (hD : va_D A w) : PreS s H (pcM H.size As D tys w) As := ⟨pcM_fb, fun U hU hW => ⟨rfl, by rw [hU], ev.moved hW hE, by rw [hU]; exact hP, va_K.moved hW.alike hK, hD.weaken (fun _ _ _ _ => trivial)⟩⟩
theorem pcT_S (hE : ev s) (hK : va_K D vwCl tys s) (hP : va_P D vwCl w H) (hZ : Zs (fun q => H.size ≤ q) s H) : PreS s H (pcT As D tys w) As := ⟨pcT_fb, fun U hU hW => ⟨rfl, ev.moved hW hE, by rw [hU]; exact hP, va_K.moved hW.alike hK, by rw [hU]; exact Zs.moved hW.alike hZ⟩⟩
theorem pcX_S (hE : ev s) (hK : va_K D vwCl tys s) (hP : va_P D vwCl w H) (hD : va_D A w) (hZ : Zs (fun q => H.size ≤ q) s H) : PreS s H (pcX H.size As D tys w) As := ⟨pcX_fb, fun U hU hW => ⟨rfl, by rw [hU], ev.moved hW hE, by rw [hU]; exact hP, va_K.moved hW.alike hK, hD.weaken (fun _ _ _ _ => trivial), by rw [hU]; exact Zs.moved hW.alike hZ⟩⟩
theorem pc_V {b ci q0 : Nat} {q : vw_C} {fs : List Value} {Pc : Array Value → State → Prop} (hK : va_K D vwCl tys s) (hP : va_P D vwCl w H) (hc : vwCl[ci]? = some q) (he : w[q0]? = some (b, .inr (ci, fs))) (h : PreS s H Pc (.ref b :: As)) : PreV s H q.1 b Pc As := ⟨h.1, va_recv hK hP hc he, h.2⟩
end MSA
section MSB
variable {p : Program} {l : Launch} {e : Env} {R : Room} {s : State} {m : MethodId} {args : Array Value} {below : List Frame} {meth : Method} {c : Code} {H : Heap} {locs : List Loc} {cells slots : Nat} {Q : State → Prop}
variable {pc : Nat} {ls : Array Slot} {rest st0 : List Value} {a : Array Value} {A0 A1 : Nat → Prop} {H0 : Heap} {mc ms : Nat} {free : Addr → Prop}
theorem ms_P {v : Int32} (hr : va_Run p l e R s m args below meth c H locs cells slots 0 0 (F0 m pc ls st0) rest (vp_Si (fun r => r = v) a) (fun _ => False))
    (kk : W p l e R s m args below meth c H locs cells slots Q (F0 m (pc + 3) ls (.int v :: rest))) : W p l e R s m args below meth c H locs cells slots Q (F0 m pc ls st0) := by
  intro T hT X
  obtain ⟨v9, st₀, t, T', L, h0, X', hL, e1, e2, ⟨r, hv, hp, hh⟩, st⟩ := hr T hT X
  cases hv
  subst hp
  obtain ⟨t2, a1, b1⟩ := kk T' (by rw [e1, hh, h0]) (Stand.forget X' (fun q h => (hL q h).elim))
  exact ⟨t2, st t2 a1, b1⟩
theorem ms_M {D : va_G} {w wc : va_W} {Qr : Option Value → va_W → Prop} (hr : va_Run p l e R s m args below meth c H locs cells slots mc ms (F0 m pc ls st0) rest (qcM D (va_A wc H.size) Qr a) (va_A wc H.size))
    (hP : va_P D vwCl w H) (hD : va_D A0 w) (hS : va_S A0 H0 H locs) (hA : ∀ q, H0.size ≤ q → A0 q) (isC isR : List Nat) {wr : va_W} (hC : isC.map (fun i => w[i]?) = wc.map some) (hR : isR.map (fun i => w[i]?) = wr.map some) (hn : va_nd isR = true) (hdis : ∀ i ∈ isR, i ∉ isC)
    (kk : ∀ (r : Option Value) (w' : va_W) (H1 : Heap) (locs1 : List Loc), Qr r w' → va_P D vwCl (wr ++ w') H1 → va_D A0 (wr ++ w') → va_S A0 H0 H1 locs1 → W p l e R s m args below meth c H1 locs1 (cells + mc) (slots + ms) Q (F0 m (pc + 3) ls (r.toList ++ rest))) : W p l e R s m args below meth c H locs cells slots Q (F0 m pc ls st0) := by
  intro T hT X
  obtain ⟨v9, st₀, t, T', L, h0, X', hL, e1, e2, ⟨r, w', hv, hq, hp, hd, hz, hk⟩, st⟩ := hr T hT X
  cases hv
  rw [h0] at hz hk
  have hF := va_free (wc := wc) hD hS hA isC hC
  obtain ⟨j1, j2⟩ := va_join (H1 := t.heap) hP hD isC isR hC hR hn hdis hk hF hp hd
  obtain ⟨t2, a1, b1⟩ := kk v9 w' T'.heap (locs ++ L) hq (by rw [e1]; exact j1) j2
    ⟨Nat.le_trans hS.1 (by rw [e1]; exact hz), fun q h1 h2 => by rw [e1, hk q (Nat.lt_of_lt_of_le h1 hS.1) (fun z => h2 (hF q z))]; exact hS.2.1 q h1 h2, fun q hq => by
      rcases List.mem_append.mp hq with h | h
      · exact hS.2.2 q h
      · exact hF _ (hL q h)⟩ T' rfl X'
  exact ⟨t2, st t2 a1, b1⟩
theorem ms_T {Qr : Option Value → Prop} {TX : String → Prop} (hr : vx_Run p l e R s m args below meth c H locs cells slots mc ms (F0 m pc ls st0) rest (qcT Qr a) (xcT TX) (fun _ => False))
    (kx : ∀ (E : String) (ce : Cell) (q9 : Addr) (H1 : Heap), TX E → H.size ≤ H1.size → (∀ q : Nat, q < H.size → H1[q]? = H[q]?) → H1[q9]? = some ce → ce.vm = .none → s.vm.findClass E = some ce.cls → vx_W p l e R s m args below meth c H1 locs (cells + mc) (slots + ms) Q (F0 m pc ls rest) q9)
    (kk : ∀ r : Option Value, Qr r → W p l e R s m args below meth c H locs (cells + mc) (slots + ms) Q (F0 m (pc + 3) ls (r.toList ++ rest))) : W p l e R s m args below meth c H locs cells slots Q (F0 m pc ls st0) := by
  intro T hT X
  rcases hr T hT X with ⟨v9, st₀, t, T', L, h0, X', hL, e1, e2, ⟨r, hv, hq, hh⟩, st⟩ | ⟨q, st₀, t, T', L, E, ce, h0, X', hL, e1, e2, ⟨hq, hz, hk⟩, hce, hcv, hcl, st⟩
  · cases hv
    obtain ⟨t2, a1, b1⟩ := kk v9 hq T' (by rw [e1, hh, h0]) (Stand.forget X' (fun q h => (hL q h).elim))
    exact ⟨t2, st t2 a1, b1⟩
  · rw [h0] at hz hk
    obtain ⟨t2, a1, b1⟩ := kx E ce q T'.heap hq (by rw [e1]; exact hz) (fun q h1 => by rw [e1]; exact hk q h1) (by rw [e1]; exact hce) hcv hcl T' rfl (Stand.forget X' (fun q h => (hL q h).elim))
    exact ⟨t2, st.trans a1, b1⟩
theorem ms_X {D : va_G} {w wc : va_W} {Qr : Option Value → va_W → Prop} {TX : String → Prop} (hr : vx_Run p l e R s m args below meth c H locs cells slots mc ms (F0 m pc ls st0) rest (qcM D (va_A wc H.size) Qr a) (xcT TX) (va_A wc H.size))
    (hP : va_P D vwCl w H) (hD : va_D A0 w) (hS : va_S A0 H0 H locs) (hA : ∀ q, H0.size ≤ q → A0 q) (isC isR : List Nat) {wr : va_W} (hC : isC.map (fun i => w[i]?) = wc.map some) (hR : isR.map (fun i => w[i]?) = wr.map some) (hn : va_nd isR = true) (hdis : ∀ i ∈ isR, i ∉ isC)
    (kx : ∀ (E : String) (ce : Cell) (q9 : Addr) (H1 : Heap) (locs1 : List Loc), TX E → va_P D vwCl w H1 → va_S A0 H0 H1 locs1 → H.size ≤ H1.size → (∀ q : Nat, q < H.size → H1[q]? = H[q]?) → H1[q9]? = some ce → ce.vm = .none → s.vm.findClass E = some ce.cls → vx_W p l e R s m args below meth c H1 locs1 (cells + mc) (slots + ms) Q (F0 m pc ls rest) q9)
    (kk : ∀ (r : Option Value) (w' : va_W) (H1 : Heap) (locs1 : List Loc), Qr r w' → va_P D vwCl (wr ++ w') H1 → va_D A0 (wr ++ w') → va_S A0 H0 H1 locs1 → W p l e R s m args below meth c H1 locs1 (cells + mc) (slots + ms) Q (F0 m (pc + 3) ls (r.toList ++ rest))) : W p l e R s m args below meth c H locs cells slots Q (F0 m pc ls st0) := by
  intro T hT X
  have hF := va_free (wc := wc) hD hS hA isC hC
  rcases hr T hT X with ⟨v9, st₀, t, T', L, h0, X', hL, e1, e2, ⟨r, w', hv, hq, hp, hd, hz, hk⟩, st⟩ | ⟨q, st₀, t, T', L, E, ce, h0, X', hL, e1, e2, ⟨hq, hz, hk⟩, hce, hcv, hcl, st⟩
  · cases hv
    rw [h0] at hz hk
    obtain ⟨j1, j2⟩ := va_join (H1 := t.heap) hP hD isC isR hC hR hn hdis hk hF hp hd
    obtain ⟨t2, a1, b1⟩ := kk v9 w' T'.heap (locs ++ L) hq (by rw [e1]; exact j1) j2
      ⟨Nat.le_trans hS.1 (by rw [e1]; exact hz), fun q h1 h2 => by rw [e1, hk q (Nat.lt_of_lt_of_le h1 hS.1) (fun z => h2 (hF q z))]; exact hS.2.1 q h1 h2, fun q hq => by
        rcases List.mem_append.mp hq with h | h
        · exact hS.2.2 q h
        · exact hF _ (hL q h)⟩ T' rfl X'
    exact ⟨t2, st t2 a1, b1⟩
  · rw [h0] at hz hk
    obtain ⟨t2, a1, b1⟩ := kx E ce q T'.heap (locs ++ L) hq (hP.kept (fun k z hz9 => by rw [e1]; exact hk _ (hP k z hz9).lt))
      ⟨Nat.le_trans hS.1 (by rw [e1]; exact hz), fun q h1 h2 => by rw [e1, hk q (Nat.lt_of_lt_of_le h1 hS.1)]; exact hS.2.1 q h1 h2, fun q hq => by
        rcases List.mem_append.mp hq with h | h
        · exact hS.2.2 q h
        · exact hF _ (hL q h)⟩ (by rw [e1]; exact hz) (fun q h1 => by rw [e1]; exact hk q h1) (by rw [e1]; exact hce) hcv hcl T' rfl X'
    exact ⟨t2, st.trans a1, b1⟩
end MSB
/-! one instruction -/
section MSI
variable {p : Program} {l : Launch} {e : Env} {R : Room} {s : State} {m : MethodId} {args : Array Value} {below : List Frame} {meth : Method} {c : Code} {H : Heap} {locs : List Loc} {cells slots : Nat} {Q : State → Prop}
variable {cc : ByteArray} {pc : Nat} {ls : Array Slot} {rest : List Value} {D : va_G} {A : Nat → Prop} {a : Nat} {tys : List (ClassId × FieldType)} {ws : va_W} {H0 : Heap}
theorem i_eqi {x y : Int32} (h : x = y) (k : W p l e R s m args below meth c H locs cells slots Q (F0 m pc ls (.int y :: rest))) : W p l e R s m args below meth c H locs cells slots Q (F0 m pc ls (.int x :: rest)) := by rw [h]; exact k
theorem i_eqz {x y : Int} (h : x = y) (k : W p l e R s m args below meth c H locs cells slots Q (F0 m pc ls (iv y :: rest))) : W p l e R s m args below meth c H locs cells slots Q (F0 m pc ls (iv x :: rest)) := by rw [h]; exact k
theorem i_name {x : Int} (k : ∀ y : Int, y = x → W p l e R s m args below meth c H locs cells slots Q (F0 m pc ls (iv y :: rest))) : W p l e R s m args below meth c H locs cells slots Q (F0 m pc ls (iv x :: rest)) := k x rfl
theorem i_iadd (hx : p.tables.exec = Jvm.exec) (hb : c.code = cc) {x y : Int} (d : decode cc pc = .ok (.iadd, 1)) (k : W p l e R s m args below meth c H locs cells slots Q (F0 m (pc + 1) ls (iv (x + y) :: rest))) : W p l e R s m args below meth c H locs cells slots Q (F0 m pc ls (iv y :: iv x :: rest)) := lv_iadd hx hb d (i_eqi (zI_add x y) k)
theorem i_isub (hx : p.tables.exec = Jvm.exec) (hb : c.code = cc) {x y : Int} (d : decode cc pc = .ok (.isub, 1)) (k : W p l e R s m args below meth c H locs cells slots Q (F0 m (pc + 1) ls (iv (x - y) :: rest))) : W p l e R s m args below meth c H locs cells slots Q (F0 m pc ls (iv y :: iv x :: rest)) := lv_isub hx hb d (i_eqi (zI_sub x y) k)
theorem i_imul (hx : p.tables.exec = Jvm.exec) (hb : c.code = cc) {x y : Int} (d : decode cc pc = .ok (.imul, 1)) (k : W p l e R s m args below meth c H locs cells slots Q (F0 m (pc + 1) ls (iv (x * y) :: rest))) : W p l e R s m args below meth c H locs cells slots Q (F0 m pc ls (iv y :: iv x :: rest)) := lv_imul hx hb d (i_eqi (zI_mul x y) k)
theorem i_idiv (hx : p.tables.exec = Jvm.exec) (hb : c.code = cc) {x y : Int} (h0 : 0 ≤ x) (h1 : x < 2147483648) (h2 : 0 < y) (h3 : y < 2147483648) (d : decode cc pc = .ok (.idiv, 1)) (k : W p l e R s m args below meth c H locs cells slots Q (F0 m (pc + 1) ls (iv (x / y) :: rest))) : W p l e R s m args below meth c H locs cells slots Q (F0 m pc ls (iv y :: iv x :: rest)) := lv_idiv hx hb d (zI_ne0 h2 h3) (i_eqi (zI_div h0 h1 h2 h3) k)
theorem i_irem (hx : p.tables.exec = Jvm.exec) (hb : c.code = cc) {x y : Int} (h0 : 0 ≤ x) (h1 : x < 2147483648) (h2 : 0 < y) (h3 : y < 2147483648) (d : decode cc pc = .ok (.irem, 1)) (k : W p l e R s m args below meth c H locs cells slots Q (F0 m (pc + 1) ls (iv (x % y) :: rest))) : W p l e R s m args below meth c H locs cells slots Q (F0 m pc ls (iv y :: iv x :: rest)) := lv_irem hx hb d (zI_ne0 h2 h3) (i_eqi (zI_rem h0 h1 h2 h3) k)
theorem i_iald (hx : p.tables.exec = Jvm.exec) (hb : c.code = cc) (hK : va_K D vwCl tys s) (hP : va_P D vwCl ws H) (q0 t0 : Nat) {cA : ClassId} {n : Nat} {f : Int → Int} (ha : ws[q0]? = some (a, ar cA n f)) (ht : tys[t0]? = some (cA, .int)) {i : Int} (h0 : 0 ≤ i) (h1 : i < n) (hn : n ≤ 2147483648) (d : decode cc pc = .ok (.iaload, 1))
    (k : W p l e R s m args below meth c H locs cells slots Q (F0 m (pc + 1) ls (iv (f i) :: rest))) : W p l e R s m args below meth c H locs cells slots Q (F0 m pc ls (iv i :: .ref a :: rest)) := by
  refine va_iald hx hb hK hP q0 t0 ha ht (zI_in h0 h1 hn) d ?_
  have e1 : (((zI i).toNatClampNeg : Nat) : Int) = i := by rw [zI_cl h0 (by omega)]; omega
  show W p l e R s m args below meth c H locs cells slots Q (F0 m (pc + 1) ls (.int (zI (f (((zI i).toNatClampNeg : Nat) : Int))) :: rest))
  rw [e1]
  exact k
theorem i_iast (hx : p.tables.exec = Jvm.exec) (hb : c.code = cc) (hK : va_K D vwCl tys s) (hP : va_P D vwCl ws H) (hD : va_D A ws) (hS : va_S A H0 H locs) (q0 t0 : Nat) {cA : ClassId} {n : Nat} {f : Int → Int} (ha : ws[q0]? = some (a, ar cA n f)) (ht : tys[t0]? = some (cA, .int)) {i x : Int} (h0 : 0 ≤ i) (h1 : i < n) (hn : n ≤ 2147483648) (d : decode cc pc = .ok (.iastore, 1))
    (k : ∀ (H1 : Heap) (locs1 : List Loc), va_P D vwCl (ws.set q0 (a, ar cA n (ui f i x))) H1 → va_D A (ws.set q0 (a, ar cA n (ui f i x))) → va_S A H0 H1 locs1 → W p l e R s m args below meth c H1 locs1 cells slots Q (F0 m (pc + 1) ls rest)) : W p l e R s m args below meth c H locs cells slots Q (F0 m pc ls (iv x :: iv i :: .ref a :: rest)) := by
  refine va_iast hx hb hK hP hD hS q0 t0 ha ht (zI_in h0 h1 hn) d (fun H1 locs1 h1P h1D h1S => ?_)
  rw [ui_eq h0 (by omega)] at h1P h1D
  exact k H1 locs1 h1P h1D h1S
theorem i_max (hx : p.tables.exec = Jvm.exec) (hb : c.code = cc) (hml : c.maxLocals = ls.size) {own : String} {index : Nat} (hown : s.vm.findClass own = some m.cls) (hlink : (Cond.methodLink own index Lib.Math.max.name).before args s = true) (hstat : (Cond.static Lib.Math.max.name).before args s = true) (hini : (Cond.initialized "java/lang/Math").before args s = true) (hcode : (Cond.code Lib.Math.max.name Lib.Math.max.code 2 (some .int)).before args s = true)
    (hR : 1 ≤ R.frames ∧ 21 ≤ R.locals ∧ cells ≤ R.cells ∧ slots ≤ R.slots) (hr8 : (rest.map fun v => v.category).sum ≤ 8) {x y : Int} (bx : zB x) (bY : zB y) (d : decode cc pc = .ok (.invokestatic index, 3))
    (k : W p l e R s m args below meth c H locs cells slots Q (F0 m (pc + 3) ls (iv (max x y) :: rest))) : W p l e R s m args below meth c H locs cells slots Q (F0 m pc ls (iv y :: iv x :: rest)) := va_mmax hx hb hml hown hlink hstat hini hcode hR.1 (by have := hR.2.1; omega) hR.2.2.1 hR.2.2.2 d (i_eqi (zI_max bx bY) k)
theorem i_min (hx : p.tables.exec = Jvm.exec) (hb : c.code = cc) (hml : c.maxLocals = ls.size) {own : String} {index : Nat} (hown : s.vm.findClass own = some m.cls) (hlink : (Cond.methodLink own index Lib.Math.min.name).before args s = true) (hstat : (Cond.static Lib.Math.min.name).before args s = true) (hini : (Cond.initialized "java/lang/Math").before args s = true) (hcode : (Cond.code Lib.Math.min.name Lib.Math.min.code 2 (some .int)).before args s = true)
    (hR : 1 ≤ R.frames ∧ 21 ≤ R.locals ∧ cells ≤ R.cells ∧ slots ≤ R.slots) (hr8 : (rest.map fun v => v.category).sum ≤ 8) {x y : Int} (bx : zB x) (bY : zB y) (d : decode cc pc = .ok (.invokestatic index, 3))
    (k : W p l e R s m args below meth c H locs cells slots Q (F0 m (pc + 3) ls (iv (min x y) :: rest))) : W p l e R s m args below meth c H locs cells slots Q (F0 m pc ls (iv y :: iv x :: rest)) := va_mmin hx hb hml hown hlink hstat hini hcode hR.1 (by have := hR.2.1; omega) hR.2.2.1 hR.2.2.2 d (i_eqi (zI_min bx bY) k)
theorem zB0 : zB 0 := ⟨by decide, by decide⟩
theorem i_icmp_eq (hx : p.tables.exec = Jvm.exec) (hb : c.code = cc) {x y : Int} (bx : zB x) (bY : zB y) {off : Int} {tgt : Nat} (d : decode cc pc = .ok (.if_icmp .eq off, 3)) (ht : (pc : Int) + off = (tgt : Int)) (kt : x = y → W p l e R s m args below meth c H locs cells slots Q (F0 m tgt ls rest)) (kf : ¬ x = y → W p l e R s m args below meth c H locs cells slots Q (F0 m (pc + 3) ls rest)) : W p l e R s m args below meth c H locs cells slots Q (F0 m pc ls (iv y :: iv x :: rest)) := lv_icmp_eq hx hb d ht (fun h => kt ((zI_eq bx bY).mp h)) (fun h => kf (fun q => h ((zI_eq bx bY).mpr q)))
theorem i_if_eq (hx : p.tables.exec = Jvm.exec) (hb : c.code = cc) {x : Int} (bx : zB x) {off : Int} {tgt : Nat} (d : decode cc pc = .ok (.ifCond .eq off, 3)) (ht : (pc : Int) + off = (tgt : Int)) (kt : x = 0 → W p l e R s m args below meth c H locs cells slots Q (F0 m tgt ls rest)) (kf : ¬ x = 0 → W p l e R s m args below meth c H locs cells slots Q (F0 m (pc + 3) ls rest)) : W p l e R s m args below meth c H locs cells slots Q (F0 m pc ls (iv x :: rest)) := lv_if_eq hx hb d ht (fun h => kt ((zI_eq bx zB0).mp h)) (fun h => kf (fun q => h ((zI_eq bx zB0).mpr q)))
theorem i_icmp_ne (hx : p.tables.exec = Jvm.exec) (hb : c.code = cc) {x y : Int} (bx : zB x) (bY : zB y) {off : Int} {tgt : Nat} (d : decode cc pc = .ok (.if_icmp .ne off, 3)) (ht : (pc : Int) + off = (tgt : Int)) (kt : ¬ x = y → W p l e R s m args below meth c H locs cells slots Q (F0 m tgt ls rest)) (kf : x = y → W p l e R s m args below meth c H locs cells slots Q (F0 m (pc + 3) ls rest)) : W p l e R s m args below meth c H locs cells slots Q (F0 m pc ls (iv y :: iv x :: rest)) := lv_icmp_ne hx hb d ht (fun h => kt (fun q => h ((zI_eq bx bY).mpr q))) (fun h => kf ((zI_eq bx bY).mp h))
theorem i_if_ne (hx : p.tables.exec = Jvm.exec) (hb : c.code = cc) {x : Int} (bx : zB x) {off : Int} {tgt : Nat} (d : decode cc pc = .ok (.ifCond .ne off, 3)) (ht : (pc : Int) + off = (tgt : Int)) (kt : ¬ x = 0 → W p l e R s m args below meth c H locs cells slots Q (F0 m tgt ls rest)) (kf : x = 0 → W p l e R s m args below meth c H locs cells slots Q (F0 m (pc + 3) ls rest)) : W p l e R s m args below meth c H locs cells slots Q (F0 m pc ls (iv x :: rest)) := lv_if_ne hx hb d ht (fun h => kt (fun q => h ((zI_eq bx zB0).mpr q))) (fun h => kf ((zI_eq bx zB0).mp h))
theorem i_icmp_lt (hx : p.tables.exec = Jvm.exec) (hb : c.code = cc) {x y : Int} (bx : zB x) (bY : zB y) {off : Int} {tgt : Nat} (d : decode cc pc = .ok (.if_icmp .lt off, 3)) (ht : (pc : Int) + off = (tgt : Int)) (kt : x < y → W p l e R s m args below meth c H locs cells slots Q (F0 m tgt ls rest)) (kf : ¬ x < y → W p l e R s m args below meth c H locs cells slots Q (F0 m (pc + 3) ls rest)) : W p l e R s m args below meth c H locs cells slots Q (F0 m pc ls (iv y :: iv x :: rest)) := lv_icmp_lt hx hb d ht (fun h => kt ((zI_lt bx bY).mp h)) (fun h => kf (fun q => h ((zI_lt bx bY).mpr q)))
theorem i_if_lt (hx : p.tables.exec = Jvm.exec) (hb : c.code = cc) {x : Int} (bx : zB x) {off : Int} {tgt : Nat} (d : decode cc pc = .ok (.ifCond .lt off, 3)) (ht : (pc : Int) + off = (tgt : Int)) (kt : x < 0 → W p l e R s m args below meth c H locs cells slots Q (F0 m tgt ls rest)) (kf : ¬ x < 0 → W p l e R s m args below meth c H locs cells slots Q (F0 m (pc + 3) ls rest)) : W p l e R s m args below meth c H locs cells slots Q (F0 m pc ls (iv x :: rest)) := lv_if_lt hx hb d ht (fun h => kt ((zI_lt bx zB0).mp h)) (fun h => kf (fun q => h ((zI_lt bx zB0).mpr q)))
theorem i_icmp_ge (hx : p.tables.exec = Jvm.exec) (hb : c.code = cc) {x y : Int} (bx : zB x) (bY : zB y) {off : Int} {tgt : Nat} (d : decode cc pc = .ok (.if_icmp .ge off, 3)) (ht : (pc : Int) + off = (tgt : Int)) (kt : y ≤ x → W p l e R s m args below meth c H locs cells slots Q (F0 m tgt ls rest)) (kf : ¬ y ≤ x → W p l e R s m args below meth c H locs cells slots Q (F0 m (pc + 3) ls rest)) : W p l e R s m args below meth c H locs cells slots Q (F0 m pc ls (iv y :: iv x :: rest)) := lv_icmp_ge hx hb d ht (fun h => kt ((zI_le bY bx).mp h)) (fun h => kf (fun q => h ((zI_le bY bx).mpr q)))
theorem i_if_ge (hx : p.tables.exec = Jvm.exec) (hb : c.code = cc) {x : Int} (bx : zB x) {off : Int} {tgt : Nat} (d : decode cc pc = .ok (.ifCond .ge off, 3)) (ht : (pc : Int) + off = (tgt : Int)) (kt : 0 ≤ x → W p l e R s m args below meth c H locs cells slots Q (F0 m tgt ls rest)) (kf : ¬ 0 ≤ x → W p l e R s m args below meth c H locs cells slots Q (F0 m (pc + 3) ls rest)) : W p l e R s m args below meth c H locs cells slots Q (F0 m pc ls (iv x :: rest)) := lv_if_ge hx hb d ht (fun h => kt ((zI_le zB0 bx).mp h)) (fun h => kf (fun q => h ((zI_le zB0 bx).mpr q)))
theorem i_icmp_gt (hx : p.tables.exec = Jvm.exec) (hb : c.code = cc) {x y : Int} (bx : zB x) (bY : zB y) {off : Int} {tgt : Nat} (d : decode cc pc = .ok (.if_icmp .gt off, 3)) (ht : (pc : Int) + off = (tgt : Int)) (kt : y < x → W p l e R s m args below meth c H locs cells slots Q (F0 m tgt ls rest)) (kf : ¬ y < x → W p l e R s m args below meth c H locs cells slots Q (F0 m (pc + 3) ls rest)) : W p l e R s m args below meth c H locs cells slots Q (F0 m pc ls (iv y :: iv x :: rest)) := lv_icmp_gt hx hb d ht (fun h => kt ((zI_lt bY bx).mp h)) (fun h => kf (fun q => h ((zI_lt bY bx).mpr q)))
theorem i_if_gt (hx : p.tables.exec = Jvm.exec) (hb : c.code = cc) {x : Int} (bx : zB x) {off : Int} {tgt : Nat} (d : decode cc pc = .ok (.ifCond .gt off, 3)) (ht : (pc : Int) + off = (tgt : Int)) (kt : 0 < x → W p l e R s m args below meth c H locs cells slots Q (F0 m tgt ls rest)) (kf : ¬ 0 < x → W p l e R s m args below meth c H locs cells slots Q (F0 m (pc + 3) ls rest)) : W p l e R s m args below meth c H locs cells slots Q (F0 m pc ls (iv x :: rest)) := lv_if_gt hx hb d ht (fun h => kt ((zI_lt zB0 bx).mp h)) (fun h => kf (fun q => h ((zI_lt zB0 bx).mpr q)))
theorem i_icmp_le (hx : p.tables.exec = Jvm.exec) (hb : c.code = cc) {x y : Int} (bx : zB x) (bY : zB y) {off : Int} {tgt : Nat} (d : decode cc pc = .ok (.if_icmp .le off, 3)) (ht : (pc : Int) + off = (tgt : Int)) (kt : x ≤ y → W p l e R s m args below meth c H locs cells slots Q (F0 m tgt ls rest)) (kf : ¬ x ≤ y → W p l e R s m args below meth c H locs cells slots Q (F0 m (pc + 3) ls rest)) : W p l e R s m args below meth c H locs cells slots Q (F0 m pc ls (iv y :: iv x :: rest)) := lv_icmp_le hx hb d ht (fun h => kt ((zI_le bx bY).mp h)) (fun h => kf (fun q => h ((zI_le bx bY).mpr q)))
theorem i_if_le (hx : p.tables.exec = Jvm.exec) (hb : c.code = cc) {x : Int} (bx : zB x) {off : Int} {tgt : Nat} (d : decode cc pc = .ok (.ifCond .le off, 3)) (ht : (pc : Int) + off = (tgt : Int)) (kt : x ≤ 0 → W p l e R s m args below meth c H locs cells slots Q (F0 m tgt ls rest)) (kf : ¬ x ≤ 0 → W p l e R s m args below meth c H locs cells slots Q (F0 m (pc + 3) ls rest)) : W p l e R s m args below meth c H locs cells slots Q (F0 m pc ls (iv x :: rest)) := lv_if_le hx hb d ht (fun h => kt ((zI_le bx zB0).mp h)) (fun h => kf (fun q => h ((zI_le bx zB0).mpr q)))
/-- both branches come to one place: its walk once -/
theorem i_join {P G : Prop} (hj : P) (k : P → G) : G := k hj
theorem i_iinc (hx : p.tables.exec = Jvm.exec) (hb : c.code = cc) {i nL k : Nat} {n x : Int} {lv lv' : List (Nat × Value)} (hdg : decode cc pc = .ok (.iinc i n, 3)) (h : lv_has ls nL lv) (hk : lv[k]? = some (i, iv x)) (hn : i < nL) (hl : (i, iv (x + n)) :: lv.filter (fun q => !(q.1 == i) && !(q.1 + 1 == i && q.2.category == 2)) = lv')
    (kk : ∀ ls' : Array Slot, lv_has ls' nL lv' → W p l e R s m args below meth c H locs cells slots Q (F0 m (pc + 3) ls' rest)) : W p l e R s m args below meth c H locs cells slots Q (F0 m pc ls rest) := lv_iinc hx hb hdg h hk (zI_add x n) hn hl kk
theorem i_eqv {x y : Value} (h : x = y) (k : W p l e R s m args below meth c H locs cells slots Q (F0 m pc ls (y :: rest))) : W p l e R s m args below meth c H locs cells slots Q (F0 m pc ls (x :: rest)) := by rw [h]; exact k
theorem k_int {cI cA : ClassId} {t : List (ClassId × FieldType)} (hK : va_K D vwCl ((cI, .int) :: t) s) (hK1 : va_K D vwCl (((cI, .int) :: t) ++ [(cA, .int)]) s) : cA = cI := by
  have h1 := (hK.2 0 _ rfl).2
  have h2 := (hK1.2 (((cI, FieldType.int) :: t).length) (cA, .int) (by simp)).2
  exact Option.some.inj (Eq.trans (Eq.symm (show s.vm.findClass _ = some cA from h2)) (show s.vm.findClass _ = some cI from h1))
theorem k_obj {cI cS cJ cA : ClassId} (hK : va_K D vwCl (tyL cI cS cJ) s) (hK1 : va_K D vwCl (tyL cI cS cJ ++ [(cA, .object "MarkdownPlanner$Store")]) s) : cA = cS := by
  obtain ⟨k1, c1, -, -, -, h1⟩ := (hK.2 1 _ rfl).2
  obtain ⟨k2, c2, -, -, -, h2⟩ := (hK1.2 2 _ rfl).2
  exact Option.some.inj (Eq.trans (Eq.symm h2) h1)
theorem zI_0 : zI 0 = 0 := by decide
theorem i_newa (hx : p.tables.exec = Jvm.exec) (hb : c.code = cc) (harr : (Cond.arrayClass .int).before args s = true) {cI cS cJ : ClassId} (hK : va_K D vwCl (tyL cI cS cJ) s) (hP : va_P D vwCl ws H) (hD : va_D A ws) (hS : va_S A H0 H locs) (hA : ∀ q, H0.size ≤ q → A q) {n : Int} {N : Nat} (en : n = (N : Int)) (hN : N ≤ 100000000) (hc : cells + 1 ≤ R.cells) (hs : slots + N ≤ R.slots) (d : decode cc pc = .ok (.newarray .int, 2))
    (k : ∀ (q : Nat) (H1 : Heap), va_P D vwCl (ws ++ [(q, ar cI N (fun _ => 0))]) H1 → va_D A (ws ++ [(q, ar cI N (fun _ => 0))]) → va_S A H0 H1 locs → W p l e R s m args below meth c H1 locs (cells + 1) (slots + N) Q (F0 m (pc + 2) ls (.ref q :: rest))) : W p l e R s m args below meth c H locs cells slots Q (F0 m pc ls (iv n :: rest)) := by
  refine va_newa (atype := .int) (ty := .int) (n := zI n) (N' := N) (a0 := (N, .inl (fun j => zI ((fun _ => (0 : Int)) ((j : Nat) : Int))))) hx hb harr rfl hK hP hD hS hA (fun cA => by simp only [vp_cell_i, zI_0]; rfl) ?_ ?_ ?_ hc hs d (fun q cA H1 hK1 hP1 hD1 hS1 => ?_)
  · have h0 : ¬ zI n < zI 0 := fun h => by rw [zI_lt ⟨by omega, by omega⟩ ⟨by omega, by omega⟩] at h; omega
    exact h0
  · rw [zI_cl (by omega) (by omega)]; omega
  · show N * 4 ≤ 536870912
    omega
  · rw [k_int hK hK1] at hP1 hD1
    exact k q H1 hP1 hD1 hS1
theorem i_newq (hx : p.tables.exec = Jvm.exec) (hb : c.code = cc) {own : String} {index : Nat} (hown : s.vm.findClass own = some m.cls) (hcl : (Cond.classLink own index "MarkdownPlanner$Store").before args s = true) (hAO : va_AO "MarkdownPlanner$Store" s) {cI cS cJ : ClassId} (hK : va_K D vwCl (tyL cI cS cJ) s) (hP : va_P D vwCl ws H) (hD : va_D A ws) (hS : va_S A H0 H locs) (hA : ∀ q, H0.size ≤ q → A q) {n : Int} {N : Nat} (en : n = (N : Int)) (hN : N ≤ 10000000) (hc : cells + 1 ≤ R.cells) (hs : slots + N ≤ R.slots) (d : decode cc pc = .ok (.anewarray index, 3))
    (k : ∀ (q : Nat) (H1 : Heap), va_P D vwCl (ws ++ [(q, .inl (cS, N, .inr (.inr (.inr (.inr (fun _ => none))))))]) H1 → va_D A (ws ++ [(q, .inl (cS, N, .inr (.inr (.inr (.inr (fun _ => none))))))]) → va_S A H0 H1 locs → W p l e R s m args below meth c H1 locs (cells + 1) (slots + N) Q (F0 m (pc + 3) ls (.ref q :: rest))) : W p l e R s m args below meth c H locs cells slots Q (F0 m pc ls (iv n :: rest)) := by
  refine va_newq (n := zI n) (N' := N) hx hb hown hcl hAO hK hP hD hS hA ?_ ?_ (by omega) hc hs d (fun q cA H1 hK1 hP1 hD1 hS1 => ?_)
  · have h0 : ¬ zI n < zI 0 := fun h => by rw [zI_lt ⟨by omega, by omega⟩ ⟨by omega, by omega⟩] at h; omega
    exact h0
  · rw [zI_cl (by omega) (by omega)]; omega
  · rw [k_obj hK hK1] at hP1 hD1
    exact k q H1 hP1 hD1 hS1
/-- a place of the world holds another thing that says the same -/
theorem p_set {a1 q0 : Nat} {e1 e2 : va_E} (h : ∀ H9 : Heap, va_at D vwCl (a1, e1) H9 → va_at D vwCl (a1, e2) H9) (hP : va_P D vwCl (ws.set q0 (a1, e1)) H) : va_P D vwCl (ws.set q0 (a1, e2)) H := by
  intro k q hk
  rw [List.getElem?_set] at hk
  by_cases hq : q0 = k
  · rw [if_pos hq] at hk
    by_cases hl : q0 < ws.length
    · rw [if_pos hl] at hk
      cases hk
      exact h H (hP k _ (by rw [List.getElem?_set, if_pos hq, if_pos hl]))
    · rw [if_neg hl] at hk; cases hk
  · rw [if_neg hq] at hk
    exact hP k q (by rw [List.getElem?_set, if_neg hq]; exact hk)
theorem d_set {a1 q0 : Nat} {e1 e2 : va_E} (hD : va_D A (ws.set q0 (a1, e1))) : va_D A (ws.set q0 (a1, e2)) := by
  have key : ∀ (k : Nat) (q : Nat × va_E), (ws.set q0 (a1, e2))[k]? = some q → ∃ q9 : Nat × va_E, (ws.set q0 (a1, e1))[k]? = some q9 ∧ q9.1 = q.1 := by
    intro k q hk
    rw [List.getElem?_set] at hk
    by_cases hq : q0 = k
    · rw [if_pos hq] at hk
      by_cases hl : q0 < ws.length
      · rw [if_pos hl] at hk
        cases hk
        exact ⟨(a1, e1), by rw [List.getElem?_set, if_pos hq, if_pos hl], rfl⟩
      · rw [if_neg hl] at hk; cases hk
    · rw [if_neg hq] at hk
      exact ⟨q, by rw [List.getElem?_set, if_neg hq]; exact hk, rfl⟩
  refine ⟨fun i j x y hx hy hxy => ?_, fun k q hk => ?_⟩
  · obtain ⟨x9, a2, a3⟩ := key i x hx
    obtain ⟨y9, b2, b3⟩ := key j y hy
    exact hD.1 i j x9 y9 a2 b2 (a3.trans (hxy.trans b3.symm))
  · obtain ⟨q9, a2, a3⟩ := key k q hk
    rw [← a3]
    exact hD.2 k q9 a2
/-- a whole row is copied -/
theorem i_copy (hx : p.tables.exec = Jvm.exec) (hb : c.code = cc) (hml : c.maxLocals = ls.size) {own : String} {index : Nat} (hown : s.vm.findClass own = some m.cls) (hlink : (Cond.methodLink own index arraycopyName).before args s = true) (hnat : (Cond.native arraycopyName).before args s = true) (hstat : (Cond.static arraycopyName).before args s = true) (hini : (Cond.initialized "java/lang/System").before args s = true)
    (hK : va_K D vwCl tys s) (hP : va_P D vwCl ws H) (hD : va_D A ws) (hS : va_S A H0 H locs) (q0 q1 : Nat) {a0 : Nat} {cI : ClassId} {n : Int} {N : Nat} {f g : Int → Int} (ha0 : ws[q0]? = some (a0, ar cI N f)) (ha1 : ws[q1]? = some (a, ar cI N g)) (ht : tys[0]? = some (cI, .int)) (en : n = (N : Int)) (hN : N ≤ 100000000)
    (hR : 1 ≤ R.frames ∧ 26 ≤ R.locals) (hr8 : (rest.map fun v => v.category).sum ≤ 8) (d : decode cc pc = .ok (.invokestatic index, 3))
    (k : ∀ (H1 : Heap) (locs1 : List Loc), va_P D vwCl (ws.set q1 (a, ar cI N f)) H1 → va_D A (ws.set q1 (a, ar cI N f)) → va_S A H0 H1 locs1 → W p l e R s m args below meth c H1 locs1 cells slots Q (F0 m (pc + 3) ls rest)) : W p l e R s m args below meth c H locs cells slots Q (F0 m pc ls (iv n :: iv 0 :: .ref a :: iv 0 :: .ref a0 :: rest)) := by
  have z0 : (zI 0).toNatClampNeg = 0 := by rw [zI_cl (by omega) (by omega)]; rfl
  have zn : (zI n).toNatClampNeg = N := by rw [zI_cl (by omega) (by omega)]; omega
  have h0 : ¬ zI 0 < 0 := by decide
  have hn0 : ¬ zI n < zI 0 := fun h => by rw [zI_lt ⟨by omega, by omega⟩ ⟨by omega, by omega⟩] at h; omega
  have hnl : (rest.map fun v => v.category).sum + (nativeFrameWords "java/lang/System" "arraycopy" 5 + 11) ≤ R.locals := by
    have e9 : nativeFrameWords "java/lang/System" "arraycopy" 5 = 7 := by decide
    have e8 := hR.2
    rw [e9]; omega
  refine va_copyi hx hb hml hown hlink hnat hstat hini hK hP hD hS q0 q1 0 0 ha0 ha1 ht ht rfl h0 h0 hn0 (by rw [z0, zn]; omega) (by rw [z0, zn]; omega) (fun i _ => rfl) hR.1 hnl d (fun H1 locs1 h1P h1D h1S => ?_)
  rw [z0, zn] at h1P h1D
  refine k H1 locs1 (p_set (fun H9 h9 => ?_) h1P) (d_set h1D) h1S
  have e1 : vp_cell cI (N, .inl (va_cpy (fun j => zI (f ((j : Nat) : Int))) (fun j => zI (g ((j : Nat) : Int))) 0 0 N)) = vp_cell cI (N, .inl (fun j => zI (f ((j : Nat) : Int)))) := by
    simp only [vp_cell_i, arrV]
    congr 1
    refine congrArg _ ?_
    funext j
    have hj := j.isLt
    simp only [va_cpy]
    rw [if_pos ⟨Nat.zero_le _, by omega⟩]
    simp
  have h2 : H9[a]? = some (vp_cell cI (N, .inl (va_cpy (fun j => zI (f ((j : Nat) : Int))) (fun j => zI (g ((j : Nat) : Int))) 0 0 N))) := h9
  rw [e1] at h2
  exact h2
end MSI
/-! ends -/
section MSE
variable {p : Program} {l : Launch} {e : Env} {R : Room} {s : State} {m : MethodId} {args : Array Value} {below : List Frame} {meth : Method} {c : Code} {H : Heap} {locs : List Loc} {cells slots : Nat}
variable {cc : ByteArray} {pc : Nat} {ls : Array Slot} {D : va_G} {A : Nat → Prop} {w' : va_W} {Qr : Option Value → va_W → Prop} {Qt : Option Value → Prop} {TX : String → Prop} {mc ms : Nat} {free : Addr → Prop}
theorem r_P {v : Int32} {ret : FieldType} (hx : p.tables.exec = Jvm.exec) (hb : c.code = cc) (hr : meth.sig.returnType = some ret) (hlocks : meth.locks = false) (hn : narrow ret (.int v) = .int v) (d : decode cc pc = .ok (.ireturn, 1)) {v' : Int32} (hv : v = v') : W p l e R s m args below meth c s.heap [] cells slots (MQ below (vp_Si (fun r => r = v')) args s cells slots (fun _ => False)) (F0 m pc ls [.int v]) := by
  refine W.zret hx hb hr hn (fun t ht hW => ⟨v, rfl, hv, ht⟩) (fun q h => by cases h) d hlocks
theorem r_Mi {v : Int32} {ret : FieldType} (hx : p.tables.exec = Jvm.exec) (hb : c.code = cc) (hr : meth.sig.returnType = some ret) (hlocks : meth.locks = false) (hn : narrow ret (.int v) = .int v) (d : decode cc pc = .ok (.ireturn, 1)) (hS : va_S A s.heap H locs) (hP : va_P D vwCl w' H) (hD : va_D A w') (hq : Qr (some (.int v)) w') (hc : cells ≤ mc) (hs : slots ≤ ms) : W p l e R s m args below meth c H locs cells slots (MQ below (qcM D A Qr) args s mc ms A) (F0 m pc ls [.int v]) := by
  refine W.widen hc hs ?_
  exact W.zret hx hb hr hn (fun t ht hW => ⟨_, w', rfl, hq, by rw [ht]; exact hP, hD, hS.F ht⟩) hS.2.2 d hlocks
theorem r_Mv (hx : p.tables.exec = Jvm.exec) (hb : c.code = cc) (hr : meth.sig.returnType = none) (hlocks : meth.locks = false) (d : decode cc pc = .ok (.return_, 1)) (hS : va_S A s.heap H locs) (hP : va_P D vwCl w' H) (hD : va_D A w') (hq : Qr none w') (hc : cells ≤ mc) (hs : slots ≤ ms) : W p l e R s m args below meth c H locs cells slots (MQ below (qcM D A Qr) args s mc ms A) (F0 m pc ls []) := by
  refine W.widen hc hs ?_
  exact W.vret hx hb hr (fun t ht hW => ⟨_, w', rfl, hq, by rw [ht]; exact hP, hD, hS.F ht⟩) hS.2.2 d hlocks
theorem r_Ti {v : Int32} {ret : FieldType} (hx : p.tables.exec = Jvm.exec) (hb : c.code = cc) (hr : meth.sig.returnType = some ret) (hlocks : meth.locks = false) (hn : narrow ret (.int v) = .int v) (d : decode cc pc = .ok (.ireturn, 1)) (hq : Qt (some (.int v))) (hc : cells ≤ mc) (hs : slots ≤ ms) : W p l e R s m args below meth c s.heap [] cells slots (vx_MQ below (qcT Qt) (xcT TX) args s mc ms free) (F0 m pc ls [.int v]) := by
  refine W.widen hc hs (vx_ret ?_)
  exact W.zret hx hb hr hn (fun t ht hW => ⟨_, rfl, hq, ht⟩) (fun q h => by cases h) d hlocks
theorem r_Tv (hx : p.tables.exec = Jvm.exec) (hb : c.code = cc) (hr : meth.sig.returnType = none) (hlocks : meth.locks = false) (d : decode cc pc = .ok (.return_, 1)) (hq : Qt none) (hc : cells ≤ mc) (hs : slots ≤ ms) : W p l e R s m args below meth c s.heap [] cells slots (vx_MQ below (qcT Qt) (xcT TX) args s mc ms free) (F0 m pc ls []) := by
  refine W.widen hc hs (vx_ret ?_)
  exact W.vret hx hb hr (fun t ht hW => ⟨_, rfl, hq, ht⟩) (fun q h => by cases h) d hlocks
theorem r_Ta {a : Nat} {rt : String} (hx : p.tables.exec = Jvm.exec) (hb : c.code = cc) (hr : meth.sig.returnType = some (.object rt)) (hlocks : meth.locks = false) (d : decode cc pc = .ok (.areturn, 1)) (hq : Qt (some (.ref a))) (hc : cells ≤ mc) (hs : slots ≤ ms) : W p l e R s m args below meth c s.heap [] cells slots (vx_MQ below (qcT Qt) (xcT TX) args s mc ms free) (F0 m pc ls [.ref a]) := by
  refine W.widen hc hs (vx_ret ?_)
  exact W.aret hx hb hr (Or.inl ⟨_, rfl⟩) (Or.inr ⟨_, rfl⟩) (fun t ht hW => ⟨_, rfl, hq, ht⟩) (fun q h => by cases h) d hlocks
theorem r_Xi {v : Int32} {ret : FieldType} (hx : p.tables.exec = Jvm.exec) (hb : c.code = cc) (hr : meth.sig.returnType = some ret) (hlocks : meth.locks = false) (hn : narrow ret (.int v) = .int v) (d : decode cc pc = .ok (.ireturn, 1)) (hS : va_S A s.heap H locs) (hP : va_P D vwCl w' H) (hD : va_D A w') (hq : Qr (some (.int v)) w') (hc : cells ≤ mc) (hs : slots ≤ ms) : W p l e R s m args below meth c H locs cells slots (vx_MQ below (qcM D A Qr) (xcT TX) args s mc ms A) (F0 m pc ls [.int v]) := by
  refine W.widen hc hs (vx_ret ?_)
  exact W.zret hx hb hr hn (fun t ht hW => ⟨_, w', rfl, hq, by rw [ht]; exact hP, hD, hS.F ht⟩) hS.2.2 d hlocks
theorem r_Xv (hx : p.tables.exec = Jvm.exec) (hb : c.code = cc) (hr : meth.sig.returnType = none) (hlocks : meth.locks = false) (d : decode cc pc = .ok (.return_, 1)) (hS : va_S A s.heap H locs) (hP : va_P D vwCl w' H) (hD : va_D A w') (hq : Qr none w') (hc : cells ≤ mc) (hs : slots ≤ ms) : W p l e R s m args below meth c H locs cells slots (vx_MQ below (qcM D A Qr) (xcT TX) args s mc ms A) (F0 m pc ls []) := by
  refine W.widen hc hs (vx_ret ?_)
  exact W.vret hx hb hr (fun t ht hW => ⟨_, w', rfl, hq, by rw [ht]; exact hP, hD, hS.F ht⟩) hS.2.2 d hlocks
/-- what a callee threw goes on to the caller -/
theorem r_out {Qc : Array Value → State → Outcome → State → Prop} {rest : List Value} {E : String} {ce : Cell} {q9 : Addr} {H1 : Heap} (ht : ∀ x ∈ c.exceptionTable.toList, False) (hlocks : meth.locks = false) (hE : TX E) (hz : s.heap.size ≤ H1.size) (hk : ∀ q : Nat, q < s.heap.size → H1[q]? = s.heap[q]?) (hce : H1[q9]? = some ce) (hcv : ce.vm = .none) (hcl : s.vm.findClass E = some ce.cls) (hf : ∀ z ∈ locs, free z.base) (hc : cells ≤ mc) (hs : slots ≤ ms) :
    vx_W p l e R s m args below meth c H1 locs cells slots (vx_MQ below Qc (xcT TX) args s mc ms free) (F0 m pc ls rest) q9 :=
  vx_out (fun x h => (ht x h).elim) hlocks hce hcv hcl (fun t hT hW => ⟨hE, by rw [hT]; exact hz, fun q h => by rw [hT]; exact hk q h⟩) hf hc hs
theorem r_thr {Qc : Array Value → State → Outcome → State → Prop} {rest : List Value} (hx : p.tables.exec = Jvm.exec) (hb : c.code = cc) (hst : l.stackTraces = false) {cls text : String} {ik is ic : Nat} (hown : s.vm.findClass RX3 = some m.cls) (hcls : cls = xIA ∨ cls = xIS) (hE : ev s)
    (hk : (Cond.classLink RX3 ik cls).before args s = true) (hini : (Cond.initialized cls).before args s = true) (htx : (is, text) ∈ evS) (hat : ∀ w ∈ (vx_atS RX3 ic cls ["java/lang/RuntimeException", "java/lang/Exception"]).filter goodWord, w.before args s = true)
    (hbad : ∀ w ∈ (vx_atS RX3 ic cls ["java/lang/RuntimeException", "java/lang/Exception"]).filter (fun w => !goodWord w), w ∈ evL) (hgood : ∀ w ∈ Cond.classLink RX3 ik cls :: Cond.initialized cls :: vx_atS RX3 ic cls ["java/lang/RuntimeException", "java/lang/Exception"], vx_ot w = true)
    (hZ : Zs (fun q => s.heap.size ≤ q) s s.heap) (hsize : ls.size = c.maxLocals) (d0 : decode cc pc = .ok (.new ik, 3)) (d3 : decode cc (pc + 3) = .ok (.dup, 1)) (d4 : decode cc (pc + 4) = .ok (.ldc is, 2)) (d6 : decode cc (pc + 6) = .ok (.invokespecial ic, 3)) (d9 : decode cc (pc + 9) = .ok (.athrow, 1))
    (ht : ∀ x ∈ c.exceptionTable.toList, False) (hR : 6 ≤ R.frames ∧ 90 ≤ R.locals ∧ cells + 1 ≤ R.cells ∧ slots + 6 ≤ R.slots) (hr8 : (rest.map fun v => v.category).sum ≤ 8) (hlocks : meth.locks = false) (hT : TX cls) (hc : cells + 1 ≤ mc) (hs : slots + 6 ≤ ms) :
    W p l e R s m args below meth c s.heap [] cells slots (vx_MQ below Qc (xcT TX) args s mc ms free) (F0 m pc ls rest) := by
  obtain ⟨sa, hsa⟩ := hE.2.1 _ htx
  refine vx_throwS (A := fun q => s.heap.size ≤ q) hx hb hst (names := ["java/lang/RuntimeException", "java/lang/Exception"]) hown (by rcases hcls with rfl | rfl <;> decide +kernel) (by decide +kernel) hk hini hsa (vx_hat hat hbad (fun w hw => va_Nw.use (evw_tab (evL_ok w hw)) (hE.1 w hw))) hgood hZ.1 hZ.2 va_S.rf hsize d0 d3 d4 d6 d9 (fun x h => (ht x h).elim) (by have := hR.1; simp only [List.length_cons, List.length_nil]; omega) (by have := hR.2.1; simp only [List.length_cons, List.length_nil]; omega) hR.2.2.1 hR.2.2.2 hlocks (fun t hal hz hk9 => ⟨hT, hz, hk9⟩) (fun z h => by cases h) hc hs
end MSE
