/-! THE CLAIM OUT OF ONE WALK OF THE LAW'S BODY. Your part is whole_start (and what it stands on); all else here is the same for every law, but numbers. -/
def R_law : String := "MarkdownPlannerLaw"
def lw_P (b : Addr) (xs : List Int32) (args : Array Value) (s : State) : Prop := args = #[.ref b] ∧ s.IntsAt b xs ∧ xs.length ≤ 260 ∧ (Jvm.Cond.and given_1 narrow_1).before args s = true
def lw_Q (_ : Array Value) (s : State) (o : Outcome) (t : State) : Prop := o = .returned (some (.int 1)) ∧ Framed s o t [] 600104 7301314
def lw_Z (below : List Frame) (a : Array Value) (s : State) : State → Prop := fun t => ∃ o, t.status = .running ∧ Ended t below o ∧ lw_Q a s o t
/-- the law's own end, with 1 on the stack, nothing written that was there before, its room as the claim has it -/
theorem lw_ret {p : Program} {l : Launch} {e : Env} {s : State} {m : MethodId} {below : List Frame} {meth : Method} {c : Code} {b : Nat} (hx : p.tables.exec = Jvm.exec) (hb : c.code = code) (hr : meth.sig.returnType = ret) (hlocks : meth.locks = false) {pc : Nat} {H : Heap} {ls : Array Slot} (hdg : decode code pc = .ok (.ireturn, 1)) : W p l e room_1 s m #[Value.ref b] below meth c H [] 600104 7301314 (lw_Z below #[Value.ref b] s) (F0 m pc ls [.int 1]) := by
  intro T hT X
  obtain ⟨fs, hret, hrun, hended, hW, hframe⟩ := X.leave (v := some (.int 1)) (hlocks := hlocks) (fun h => by rw [hr] at h; cases h)
  have hmeth' : T.vm.method? m = some meth := X.method'
  refine ⟨T.setFrames fs, ?_, .returned (some (.int 1)), hrun, hended, rfl, ⟨_, rfl⟩, hW, hframe⟩
  jvm_step X.here [X.here.top, hx, hb, hdg, hmeth', hr, ret, narrow_b1]
  (try refine ⟨rfl, ?_⟩); (try refine ⟨rfl, ?_⟩)
  first | (intro acts; rw [hret _ acts rfl rfl rfl]) | rw [hret _ _ rfl rfl rfl]
  exact Steps.refl _
/-- what holds at the law's entry: the machine, the code, the tables' words (any of lw_tbl by 'hts w (by decide +kernel)'), the script of L ints xs at the cell b, what the Statement gives of the start (any of its parts by flat_of_before) -/
def lw_At (p : Program) (s : State) (m : MethodId) (meth : Method) (c : Code) (b L : Nat) (xs : Nat → Int32) : Prop :=
  p.tables.exec = Jvm.exec ∧ c.code = code ∧ meth.sig.returnType = ret ∧ c.maxLocals = 13 ∧ s.vm.findClass R_law = some m.cls ∧ (∀ w ∈ lw_tbl, w.before #[Value.ref b] s = true) ∧ va_X b L xs s s.heap ∧ b < s.heap.size ∧ meth.locks = false ∧ (Jvm.Cond.and given_1 narrow_1).before #[Value.ref b] s = true
/-- words by their places -/
theorem mem_ps {big : List Cond} (ws : List Cond) (ps : List Nat) (hp : ws = ps.filterMap (fun i => big[i]?)) : ∀ w ∈ ws, w ∈ big := fun w h => by
  rw [hp] at h
  obtain ⟨i, -, hi⟩ := List.mem_filterMap.mp h
  exact List.mem_of_getElem? hi
set_option maxRecDepth 20000 in
theorem evL_in : ∀ w ∈ evL, w ∈ lw_tbl := mem_ps evL [48, 49, 51, 52, 54, 55, 57, 58, 59, 60, 61, 63, 131, 132, 134, 136, 137, 139, 141, 43, 84, 126, 254, 258, 269, 307, 328, 340, 379, 396, 403, 405, 406, 438, 191, 193, 195, 189, 275] (by decide +kernel)
set_option maxRecDepth 20000 in
theorem evS_in : ∀ w ∈ evS.map (fun q => Cond.stringRef RX3 q.1 q.2), w ∈ lw_tbl := mem_ps _ [227, 282, 311, 321, 327, 335, 316, 322] (by decide +kernel)
set_option maxRecDepth 20000 in
theorem evS_nr : ∀ q ∈ evS, Cond.exactly (Term.string RX3 q.1) "java/lang/String" ∈ flatC (Jvm.Cond.and given_1 narrow_1) := by decide +kernel
/-- what the law's walk stands on -/
def LC (p : Program) (s : State) (m : MethodId) (meth : Method) (c : Code) (b L : Nat) (xs : Nat → Int32) (D : va_G) (cI cS cJ : ClassId) : Prop :=
  p.tables.exec = Jvm.exec ∧ c.code = code ∧ meth.sig.returnType = ret ∧ c.maxLocals = 13 ∧ s.vm.findClass RL = some m.cls ∧ (∀ w ∈ wsL_law, w.before #[Value.ref b] s = true) ∧ va_X b L xs s s.heap ∧ b < s.heap.size ∧ meth.locks = false ∧ ev s ∧ va_K D vwCl (tyL cI cS cJ) s ∧ Zs (fun q => s.heap.size ≤ q) s s.heap ∧ va_AO "MarkdownPlanner$Store" s
set_option maxHeartbeats 4000000 in
set_option maxRecDepth 100000 in
theorem LC_of {p : Program} {s : State} {m : MethodId} {meth : Method} {c : Code} {b L : Nat} {xs : Nat → Int32} (C0 : lw_At p s m meth c b L xs) : ∃ (D : va_G) (cI cS cJ : ClassId), LC p s m meth c b L xs D cI cS cJ := by
  obtain ⟨hx, hb, hr, hml, hown, hts, hX, hbl, hlocks, hgv⟩ := C0
  have hg := flat_of_before _ hgv
  have hi0 : (Cond.instantiable RX0 12).before #[Value.ref b] s = true := hts _ (List.mem_of_getElem? (i := 83) (by decide +kernel))
  obtain ⟨c0, i0, k0⟩ := u_known (C := RX0) (T := TX0) (N := 12) (n := 12) hts inX0 hi0
  have hi1 : (Cond.instantiable RX1 7).before #[Value.ref b] s = true := hts _ (List.mem_of_getElem? (i := 42) (by decide +kernel))
  obtain ⟨c1, i1, k1⟩ := u_known (C := RX1) (T := TX1) (N := 7) (n := 7) hts inX1 hi1
  have hi2 : (Cond.instantiable RX2 5).before #[Value.ref b] s = true := hts _ (List.mem_of_getElem? (i := 125) (by decide +kernel))
  obtain ⟨c2, i2, k2⟩ := u_known (C := RX2) (T := TX2) (N := 5) (n := 5) hts inX2 hi2
  have hi3 : (Cond.instantiable RX3 3).before #[Value.ref b] s = true := hts _ (List.mem_of_getElem? (i := 34) (by decide +kernel))
  obtain ⟨c3, i3, k3⟩ := u_known (C := RX3) (T := TX3) (N := 3) (n := 3) hts inX3 hi3
  have hI := Cond.arrayClass_spec (type := .int) (hts _ (List.mem_of_getElem? (i := 79) (by decide +kernel)))
  have hO : (Cond.arrayOver (.object "MarkdownPlanner$Store")).before #[Value.ref b] s = true := hts _ (List.mem_of_getElem? (i := 81) (by decide +kernel))
  obtain ⟨cI, kI, oI, a1, a2, a3⟩ := hI
  obtain ⟨oS, cS, kS, d1, d2, d3, d4, d5⟩ := Cond.arrayOver_spec hO
  refine ⟨(fun k => if k = 0 then c0 else if k = 1 then c1 else if k = 2 then c2 else c3, fun k => if k = 0 then i0 else if k = 1 then i1 else if k = 2 then i2 else i3), cI, cS, cI, hx, hb, hr, hml, hown, fun w h => hts w (wsL_law_in w h), hX, hbl, hlocks, ⟨fun w h => va_Nw.of (evw_tab (evL_ok w h)) (hts w (evL_in w h)), fun q hq => ?_, va_Nc.of (hg _ (by decide +kernel))⟩, ⟨fun k q hq => ?_, fun k q hk => ?_⟩, ⟨?_, ?_⟩, va_AO.of hO⟩
  · obtain ⟨a, c9, cell, k9, e1, -⟩ := Cond.exactly_spec (hg _ (evS_nr q hq))
    exact ⟨a, vk_R.of (hts _ (evS_in _ (List.mem_map.mpr ⟨q, hq, rfl⟩))) e1⟩
  · match k, hq with
    | 0, hq => cases hq; exact k0
    | 1, hq => cases hq; exact k1
    | 2, hq => cases hq; exact k2
    | 3, hq => cases hq; exact k3
    | k + 4, hq => simp [vwCl] at hq
  · match k, hk with
    | 0, hk => cases hk; exact ⟨fun n z => ⟨(fun k h => by cases h), kI, a2, oI, a3⟩, a1⟩
    | 1, hk => cases hk; exact ⟨fun n z => ⟨(fun k h => by cases h), kS, d3, oS, d4⟩, kS, oS, d3, d4, d1, d5⟩
    | k + 2, hk => simp [tyL] at hk
  · exact vx_Zqof (args := #[Value.ref b]) (hts _ (List.mem_of_getElem? (i := 214) (by decide +kernel))) (hts _ (List.mem_of_getElem? (i := 26) (by decide +kernel))) (hg _ (by decide +kernel)) (fun a h => Nat.not_le.mpr h)
  · exact vx_Zqof (args := #[Value.ref b]) (hts _ (List.mem_of_getElem? (i := 216) (by decide +kernel))) (hts _ (List.mem_of_getElem? (i := 26) (by decide +kernel))) (hg _ (by decide +kernel)) (fun a h => Nat.not_le.mpr h)
theorem k_hst {l : Launch} (hflags : l.flags = flags0) : l.stackTraces = false := by
  have h : ∀ f : List String, f = flags0 → True := fun _ _ => trivial
  unfold Launch.stackTraces
  rw [hflags]
  decide +kernel
