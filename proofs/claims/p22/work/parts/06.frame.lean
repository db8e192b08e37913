/-! ints: every int of the walk is zI of a whole number -/
def zI (a : Int) : Int32 := Int32.ofInt a
abbrev zB (a : Int) : Prop := -2147483648 ≤ a ∧ a < 2147483648
theorem zI_toInt {a : Int} (h : zB a) : (zI a).toInt = a := Int32.toInt_ofInt_of_le (by have := h.1; omega) (by have := h.2; omega)
theorem zI_of (x : Int32) : zI x.toInt = x := Int32.ofInt_toInt x
theorem zB_of (x : Int32) : zB x.toInt := ⟨by have := x.le_toInt; omega, by have := x.toInt_lt; omega⟩
theorem zI_add (a b : Int) : zI a + zI b = zI (a + b) := (Int32.ofInt_add a b).symm
theorem zI_sub (a b : Int) : zI a - zI b = zI (a - b) := (Int32.ofInt_sub a b).symm
theorem zI_mul (a b : Int) : zI a * zI b = zI (a * b) := (Int32.ofInt_mul a b).symm
theorem zI_lt {a b : Int} (ha : zB a) (hb : zB b) : zI a < zI b ↔ a < b := by rw [Int32.lt_iff_toInt_lt, zI_toInt ha, zI_toInt hb]
theorem zI_le {a b : Int} (ha : zB a) (hb : zB b) : zI a ≤ zI b ↔ a ≤ b := by rw [Int32.le_iff_toInt_le, zI_toInt ha, zI_toInt hb]
theorem zI_eq {a b : Int} (ha : zB a) (hb : zB b) : zI a = zI b ↔ a = b := ⟨fun h => by
  have h2 := congrArg Int32.toInt h
  rwa [zI_toInt ha, zI_toInt hb] at h2, fun h => by rw [h]⟩
theorem zI_cl {a : Int} (h1 : 0 ≤ a) (h2 : a < 2147483648) : (zI a).toNatClampNeg = a.toNat := by
  show (zI a).toInt.toNat = a.toNat
  rw [zI_toInt ⟨by omega, h2⟩]
theorem zI_in {a : Int} {n : Nat} (h0 : 0 ≤ a) (h1 : a < n) (hn : n ≤ 2147483648) : vp_in (zI a) n := by
  refine vp_in_iff.mpr ?_
  rw [zI_toInt ⟨by omega, by omega⟩]
  exact ⟨h0, h1⟩
theorem zI_div {a b : Int} (ha : 0 ≤ a) (ha2 : a < 2147483648) (hb : 0 < b) (hb2 : b < 2147483648) : zI a / zI b = zI (a / b) := by
  have e1 : (zI a).toInt = a := zI_toInt ⟨by omega, ha2⟩
  have e2 : (zI b).toInt = b := zI_toInt ⟨by omega, hb2⟩
  have hb9 : zI b ≠ -1 := fun h => by
    have h2 := congrArg Int32.toInt h
    rw [e2] at h2
    have h3 : (-1 : Int32).toInt = -1 := by decide
    omega
  have q0 : 0 ≤ a / b := Int.ediv_nonneg ha (by omega)
  have q1 : a / b ≤ a := Int.ediv_le_self b ha
  refine Int32.toInt_inj.mp ?_
  rw [Int32.toInt_div_of_ne_right _ _ hb9, e1, e2, zI_toInt ⟨by omega, by omega⟩, Int.tdiv_eq_ediv_of_nonneg ha]
theorem zI_rem {a b : Int} (ha : 0 ≤ a) (ha2 : a < 2147483648) (hb : 0 < b) (hb2 : b < 2147483648) : zI a - zI a / zI b * zI b = zI (a % b) := by
  rw [zI_div ha ha2 hb hb2, zI_mul, zI_sub, Int.emod_def, Int.mul_comm]
theorem zI_ne0 {b : Int} (hb : 0 < b) (hb2 : b < 2147483648) : ¬ zI b = 0 := fun h => by
  have h2 : zI b = zI 0 := h
  rw [zI_eq ⟨by omega, hb2⟩ ⟨by omega, by omega⟩] at h2
  omega
theorem zI_max {a b : Int} (ha : zB a) (hb : zB b) : (if zI a < zI b then zI b else zI a) = zI (max a b) := by
  by_cases h : a < b
  · rw [if_pos ((zI_lt ha hb).mpr h)]; congr 1; omega
  · rw [if_neg (fun q => h ((zI_lt ha hb).mp q))]; congr 1; omega
theorem zI_min {a b : Int} (ha : zB a) (hb : zB b) : (if zI b < zI a then zI b else zI a) = zI (min a b) := by
  by_cases h : b < a
  · rw [if_pos ((zI_lt hb ha).mpr h)]; congr 1; omega
  · rw [if_neg (fun q => h ((zI_lt hb ha).mp q))]; congr 1; omega
/-! cells: an int row f of n places, an object of kind k -/
abbrev iv (a : Int) : Value := .int (zI a)
abbrev ar (cI : ClassId) (n : Nat) (f : Int → Int) : va_E := .inl (cI, n, .inl (fun j => zI (f ((j : Nat) : Int))))
abbrev ob (k : Nat) (fs : List Value) : va_E := .inr (k, fs)
def ui (f : Int → Int) (i v : Int) : Int → Int := fun j => if j = i then v else f j
theorem ui_s {f : Int → Int} {i v : Int} : ui f i v i = v := if_pos rfl
theorem ui_n {f : Int → Int} {i v j : Int} (h : j ≠ i) : ui f i v j = f j := if_neg h
theorem ui_eq {f : Int → Int} {i v : Int} (h0 : 0 ≤ i) (h1 : i < 2147483648) : upd (fun j => zI (f ((j : Nat) : Int))) (zI i).toNatClampNeg (zI v) = fun j => zI (ui f i v ((j : Nat) : Int)) := by
  funext j
  rw [zI_cl h0 h1]
  unfold upd ui
  by_cases hj : j = i.toNat
  · rw [if_pos hj, if_pos (by omega)]
  · rw [if_neg hj, if_neg (by omega)]
theorem ar_congr {cI : ClassId} {n : Nat} {f g : Int → Int} (h : ∀ j : Int, 0 ≤ j → j < n → f j = g j) : vp_cell cI (n, .inl (fun j => zI (f ((j : Nat) : Int)))) = vp_cell cI (n, .inl (fun j => zI (g ((j : Nat) : Int)))) := by
  simp only [vp_cell_i, arrV]
  congr 1
  refine congrArg _ ?_
  funext j
  exact congrArg Value.int (congrArg zI (h _ (Int.natCast_nonneg _) (by have := j.isLt; omega)))
/-- two worlds that hold the same: cell by cell, rows up to their length -/
def ce_eq (D : va_G) (cl : List vw_C) (p q : Nat × va_E) : Prop := p.1 = q.1 ∧ ∀ H : Heap, va_at D cl p H → va_at D cl q H
theorem ce_rf {D : va_G} {cl : List vw_C} {p : Nat × va_E} : ce_eq D cl p p := ⟨rfl, fun _ h => h⟩
theorem ce_ar {D : va_G} {cl : List vw_C} {a : Nat} {cI : ClassId} {n : Nat} {f g : Int → Int} (h : ∀ j : Int, 0 ≤ j → j < n → f j = g j) : ce_eq D cl (a, ar cI n f) (a, ar cI n g) := ⟨rfl, fun H h1 => by
  have h2 : H[a]? = some (vp_cell cI (n, .inl (fun j => zI (f ((j : Nat) : Int))))) := h1
  rw [ar_congr h] at h2
  exact h2⟩
theorem ce_of {D : va_G} {cl : List vw_C} {a : Nat} {e e2 : va_E} (h : e = e2) : ce_eq D cl (a, e) (a, e2) := by rw [h]; exact ce_rf
def WE (D : va_G) (cl : List vw_C) : va_W → va_W → Prop
  | [], [] => True
  | p :: ws, q :: ws' => ce_eq D cl p q ∧ WE D cl ws ws'
  | _, _ => False
theorem WE.get {D : va_G} {cl : List vw_C} : ∀ {ws ws' : va_W}, WE D cl ws ws' → ∀ (k : Nat) (q : Nat × va_E), ws'[k]? = some q → ∃ p, ws[k]? = some p ∧ ce_eq D cl p q
  | [], [], _, k, q, hk => by simp at hk
  | p :: ws, q' :: ws', h, 0, q, hk => ⟨p, rfl, by
    have e : q' = q := Option.some.inj hk
    rw [← e]; exact h.1⟩
  | p :: ws, q' :: ws', h, k + 1, q, hk => by
    obtain ⟨p9, h1, h2⟩ := WE.get h.2 k q (by simpa using hk)
    exact ⟨p9, by simpa using h1, h2⟩
  | [], _ :: _, h, _, _, _ => h.elim
  | _ :: _, [], h, _, _, _ => h.elim
theorem WE.P {D : va_G} {cl : List vw_C} {ws ws' : va_W} {H : Heap} (h : WE D cl ws ws') (hP : va_P D cl ws H) : va_P D cl ws' H := fun k q hk => by
  obtain ⟨p, h1, h2⟩ := h.get k q hk
  exact h2.2 H (hP k p h1)
theorem WE.D {D : va_G} {cl : List vw_C} {A : Nat → Prop} {ws ws' : va_W} (h : WE D cl ws ws') (hD : va_D A ws) : va_D A ws' := by
  refine ⟨fun i j p q hi hj hpq => ?_, fun k q hk => ?_⟩
  · obtain ⟨p1, a1, b1⟩ := h.get i p hi
    obtain ⟨p2, a2, b2⟩ := h.get j q hj
    exact hD.1 i j p1 p2 a1 a2 (b1.1.trans (hpq.trans b2.1.symm))
  · obtain ⟨p1, a1, b1⟩ := h.get k q hk
    rw [← b1.1]
    exact hD.2 k p1 a1
/-! what a launch's tables say beside a method's own words -/
def evL : List Cond := [.fieldLinkNest RX0 24 RX1 "prices" "[I" RX3, .fieldLinkNest RX3 58 RX1 "prices" "[I" RX3, .fieldLinkNest RX0 43 RX1 "weeks" "I" RX3, .fieldLinkNest RX3 133 RX1 "weeks" "I" RX3, .fieldLinkNest RX3 34 RX1 "week" "I" RX3, .fieldLinkNest RX0 36 RX1 "week" "I" RX3, .fieldLinkNest RX0 49 RX1 "gap" "I" RX3, .fieldLinkNest RX3 69 RX1 "gap" "I" RX3, .fieldLinkNest RX0 53 RX1 "remnant" "I" RX3, .fieldLinkNest RX3 72 RX1 "remnant" "I" RX3, .fieldLinkNest RX3 75 RX1 "moving" "I" RX3, .fieldLinkNest RX3 112 RX1 "taken" "I" RX3, .fieldLinkNest RX0 33 RX2 "demands" "[I" RX3, .fieldLinkNest RX3 66 RX2 "demands" "[I" RX3, .fieldLinkNest RX3 85 RX2 "pieces" "[I" RX3, .fieldLinkNest RX0 69 RX2 "step" "I" RX3, .fieldLinkNest RX3 91 RX2 "step" "I" RX3, .fieldLinkNest RX3 102 RX2 "markedDownIn" "I" RX3, .fieldLinkNest RX3 119 RX2 "piecesSold" "I" RX3, .methodLinkNest RX3 11 yX1_init RX3, .methodLinkNest RX3 24 yX0_init RX3, .methodLinkNest RX3 29 yX2_init RX3, .methodLinkNest RX3 38 yX1_startAnew RX3, .methodLinkNest RX3 42 yX2_startAnew RX3, .methodLinkNest RX3 47 yX1_keepsLadderDown RX3, .methodLinkNest RX3 146 yX2_wholeStock RX3, .methodLinkNest RX3 96 yX2_waitFrom RX3, .methodLinkNest RX3 115 yX2_sellForAWeek RX3, .methodLinkNest RX3 122 yX2_salesAt RX3, .methodLinkNest RX3 126 yX0_lookAt RX3, .methodLinkNest RX0 57 yX2_waitFrom RX3, .methodLinkNest RX0 75 yX2_wholeStock RX3, .methodLinkNest RX3 130 yX0_greatestWorth RX3, .methodLinkNest RX3 141 yX0_bestStepIn RX3, .declares (Bundle.initS "java/lang/RuntimeException"), .declares (Bundle.initS "java/lang/Exception"), .declares (Bundle.initS Bundle.tN), .castable "java/lang/IllegalArgumentException" "java/lang/IllegalArgumentException", .castable "java/lang/IllegalStateException" "java/lang/IllegalStateException"]
def evS : List (Nat × String) := [(144, "out of range"), (53, "prices only go down from step to step"), (149, "the store has no room for so many pieces"), (151, "the season is over"), (94, "the step is not above that of the store"), (100, "the gap has not gone by"), (107, "the stores are the same"), (110, "there are not so many pieces")]
abbrev xIA : String := "java/lang/IllegalArgumentException"
abbrev xIS : String := "java/lang/IllegalStateException"
def evOk : Cond → Bool
  | .fieldLinkNest .. | .methodLinkNest .. | .declares _ | .castable .. => true
  | _ => false
theorem evL_ok : ∀ w ∈ evL, evOk w = true := by decide +kernel
theorem evw_tab {w : Cond} (h : evOk w = true) : w.onTables = true := by cases w <;> first | rfl | (simp [evOk] at h)
theorem evw_warm {w : Cond} (h : evOk w = true) {s U : State} (hW : s.WarmedH U.vm) (hZ : va_Nw w s) : va_Nw w U := by
  cases w <;> first | exact va_Nw.warmF hW hZ | exact va_Nw.warmM hW hZ | exact va_Nw.warmD hW hZ | exact va_Nw.warmC hW hZ | (simp [evOk] at h)
/-- the tables' words that a method's own list doesn't hold; the texts; which class is not below which -/
def ev (U : State) : Prop := (∀ w ∈ evL, va_Nw w U) ∧ (∀ q ∈ evS, ∃ a, vk_R RX3 q.1 q.2 a U) ∧ va_Nc xIS xIA U
theorem ev.moved {s U : State} (hW : s.WarmedH U.vm) (h : ev s) : ev U := ⟨fun w hw => evw_warm (evL_ok w hw) hW (h.1 w hw), fun q hq => by
  obtain ⟨a, ha⟩ := h.2.1 q hq
  exact ⟨a, vk_R.warm hW ha⟩, va_Nc.moved hW.alike h.2.2⟩
theorem ev.same {s U : State} (hv : U.vm = s.vm) (h : ev s) : ev U := ⟨fun w hw => va_Nw.same (evw_tab (evL_ok w hw)) hv.symm (h.1 w hw), fun q hq => by
  obtain ⟨a, ha⟩ := h.2.1 q hq
  exact ⟨a, vk_R.same hv ha⟩, va_Nc.moved (by rw [hv]; exact Vm.Alike.refl _) h.2.2⟩
theorem ev.nw {s : State} (h : ev s) (i : Nat) {w : Cond} (hi : evL[i]? = some w) : va_Nw w s := h.1 w (List.mem_of_getElem? hi)
theorem ev.at {s : State} {args : Array Value} (h : ev s) (i : Nat) {w : Cond} (hi : evL[i]? = some w) : w.before args s = true := va_Nw.use (evw_tab (evL_ok w (List.mem_of_getElem? hi))) (h.nw i hi)
theorem ev.tx {s : State} (h : ev s) (i : Nat) {q : Nat × String} (hi : evS[i]? = some q) : ∃ a, vk_R RX3 q.1 q.2 a s := h.2.1 q (List.mem_of_getElem? hi)
/-- the two statics of Throwable, outside A -/
def Zs (A : Nat → Prop) (U : State) (H : Heap) : Prop := vx_Zq Bundle.tN "UNASSIGNED_STACK" Bundle.steD A U H ∧ vx_Zq Bundle.tN "SUPPRESSED_SENTINEL" Bundle.listD A U H
theorem Zs.moved {A : Nat → Prop} {u U : State} {H : Heap} (hvm : u.vm.Alike U.vm) (h : Zs A u H) : Zs A U H := ⟨vx_Zq.moved hvm h.1, vx_Zq.moved hvm h.2⟩
theorem Zs.kept {A : Nat → Prop} {U : State} {H H1 : Heap} (h : Zs A U H) (hq : ∀ a : Nat, a < H.size → ¬ A a → H1[a]? = H[a]?) : Zs A U H1 := ⟨vx_Zq.kept h.1 hq, vx_Zq.kept h.2 hq⟩
theorem Zs.narrow {A B : Nat → Prop} {U : State} {H : Heap} (h : Zs A U H) (hAB : ∀ q, B q → A q) : Zs B U H := ⟨vx_Zq.narrow h.1 hAB, vx_Zq.narrow h.2 hAB⟩
/-! contracts -/
abbrev tyL (cI cS cJ : ClassId) : List (ClassId × FieldType) := [(cI, .int), (cS, .object "MarkdownPlanner$Store")]
/-- a start: the world w stands, the heap may be any -/
def pcP (as : List Value) (D : va_G) (tys : List (ClassId × FieldType)) (w : va_W) : Array Value → State → Prop := va_Pc as (fun U => ev U ∧ va_P D vwCl w U.heap ∧ va_K D vwCl tys U)
def pcM (sz : Nat) (as : List Value) (D : va_G) (tys : List (ClassId × FieldType)) (w : va_W) : Array Value → State → Prop := va_Pc as (fun U => U.heap.size = sz ∧ ev U ∧ va_P D vwCl w U.heap ∧ va_K D vwCl tys U ∧ va_D (fun _ => True) w)
def pcT (as : List Value) (D : va_G) (tys : List (ClassId × FieldType)) (w : va_W) : Array Value → State → Prop := va_Pc as (fun U => ev U ∧ va_P D vwCl w U.heap ∧ va_K D vwCl tys U ∧ Zs (fun q => U.heap.size ≤ q) U U.heap)
def pcX (sz : Nat) (as : List Value) (D : va_G) (tys : List (ClassId × FieldType)) (w : va_W) : Array Value → State → Prop := va_Pc as (fun U => U.heap.size = sz ∧ ev U ∧ va_P D vwCl w U.heap ∧ va_K D vwCl tys U ∧ va_D (fun _ => True) w ∧ Zs (fun q => U.heap.size ≤ q) U U.heap)
/-- ends -/
def qcM (D : va_G) (A : Nat → Prop) (Qr : Option Value → va_W → Prop) : Array Value → State → Outcome → State → Prop := fun _ st oc t => ∃ (r : Option Value) (w' : va_W), oc = .returned r ∧ Qr r w' ∧ va_P D vwCl w' t.heap ∧ va_D A w' ∧ va_F A st t
def qcT (Qr : Option Value → Prop) : Array Value → State → Outcome → State → Prop := fun _ st oc t => ∃ r : Option Value, oc = .returned r ∧ Qr r ∧ t.heap = st.heap
def xcT (TX : String → Prop) : String → State → State → Prop := fun E st t => TX E ∧ st.heap.size ≤ t.heap.size ∧ ∀ q : Nat, q < st.heap.size → t.heap[q]? = st.heap[q]?
/-- reads only, answers v -/
abbrev cP (l : Launch) (y : MethodName) (ws : List Cond) (rm : Room) (as : List Value) (D : va_G) (tys : List (ClassId × FieldType)) (w : va_W) (v : Int32) : Prop := Met l y ws rm (pcP as D tys w) (vp_Si (fun r => r = v)) 0 0 (fun _ => False)
/-- changes its world -/
abbrev cM (l : Launch) (y : MethodName) (ws : List Cond) (rm : Room) (as : List Value) (D : va_G) (tys : List (ClassId × FieldType)) (w : va_W) (Qr : Option Value → va_W → Prop) (mc ms : Nat) : Prop := ∀ sz : Nat, Met l y ws rm (pcM sz as D tys w) (qcM D (va_A w sz) Qr) mc ms (va_A w sz)
/-- reads only, or throws -/
abbrev cT (l : Launch) (y : MethodName) (ws : List Cond) (rm : Room) (as : List Value) (D : va_G) (tys : List (ClassId × FieldType)) (w : va_W) (Qr : Option Value → Prop) (TX : String → Prop) (mc ms : Nat) : Prop := vx_Met l y ws rm (pcT as D tys w) (qcT Qr) (xcT TX) mc ms (fun _ => False)
/-- changes its world, or throws with nothing changed -/
abbrev cX (l : Launch) (y : MethodName) (ws : List Cond) (rm : Room) (as : List Value) (D : va_G) (tys : List (ClassId × FieldType)) (w : va_W) (Qr : Option Value → va_W → Prop) (TX : String → Prop) (mc ms : Nat) : Prop := ∀ sz : Nat, vx_Met l y ws rm (pcX sz as D tys w) (qcM D (va_A w sz) Qr) (xcT TX) mc ms (va_A w sz)
/-! what a body has -/
def Hx (p : Program) (s : State) (m : MethodId) (args : Array Value) (meth : Method) (c : Code) (cc : ByteArray) (ret : Option FieldType) (maxL : Nat) (ws : List Cond) (own nm : String) : Prop :=
  p.tables.exec = Jvm.exec ∧ c.code = cc ∧ meth.sig.returnType = ret ∧ c.maxLocals = maxL ∧ (∀ w ∈ ws, w.before args s = true) ∧ s.vm.findClass own = some m.cls ∧ meth.locks = false ∧ meth.name = nm
theorem hx_of {p : Program} {l : Launch} {y : MethodName} {ws : List Cond} {rm : Room} {cc : ByteArray} {maxL : Nat} {ret : Option FieldType} {e : Env} {s : State} {m : MethodId} {args : Array Value} {below : List Frame} {meth : Method} {c : Code} {s₁ : State} (B : BodyLoose p l y (headSpec ws rm) cc maxL ret e s m args below meth c s₁) (hml : c.maxLocals = maxL) : Hx p s m args meth c cc ret maxL ws y.cls y.name :=
  ⟨B.exec, B.bytes, B.returns, hml, atoms_spec (ws := ws) B.pre, findClass_of_methodNamed B.named, B.notSynchronized, (name_of_methodNamed B.named B.method).1⟩
theorem en_fr {p : Program} {l : Launch} {e : Env} {R : Room} {s : State} {m : MethodId} {args : Array Value} {below : List Frame} {meth : Method} {c : Code} {H : Heap} {locs : List Loc} {cells slots : Nat} {Q : State → Prop} {as : List Value} {maxL : Nat} (hlen : (lg_sl as).length ≤ maxL)
    (k : ∀ ls : Array Slot, lv_has ls maxL (lv_args 0 as) → W p l e R s m args below meth c H locs cells slots Q (F0 m 0 ls [])) : W p l e R s m args below meth c H locs cells slots Q (entryFrame m as.toArray maxL) := by
  have hl := lv_entry as (n := maxL) hlen
  rw [lg_entry_eq]
  exact k _ hl
theorem en_P {l : Launch} {y : MethodName} {ws ws' : List Cond} {rm : Room} {cc : ByteArray} {maxL : Nat} {ret : Option FieldType} {as : List Value} {D : va_G} {tys : List (ClassId × FieldType)} {w : va_W} {v : Int32}
    (hy : plainName y.cls = true) (hw : ws = Cond.code y cc maxL ret :: ws') (hlen : (lg_sl as).length ≤ maxL)
    (body : ∀ (p : Program) (e : Env) (s : State) (m : MethodId) (args : Array Value) (below : List Frame) (meth : Method) (c : Code) (ls : Array Slot), Hx p s m args meth c cc ret maxL ws y.cls y.name → ev s → va_P D vwCl w s.heap → va_K D vwCl tys s → lv_has ls maxL (lv_args 0 as) →
      ∀ Q : State → Prop, Q = MQ below (vp_Si (fun r => r = v)) args s 0 0 (fun _ => False) → W p l e rm s m args below meth c s.heap [] 0 0 Q (F0 m 0 ls [])) : cP l y ws rm as D tys w v := by
  refine Met.ofW (cc := cc) (maxL := maxL) (ret := ret) hy hw ?_
  intro p e s m args below meth c s₁ B hml hv
  obtain ⟨ha, hE, hP, hK⟩ := hv
  have hX := hx_of B hml
  rw [ha] at hX ⊢
  exact en_fr hlen (fun ls hl => body p e s m _ below meth c ls hX hE hP hK hl _ rfl)
theorem en_M {l : Launch} {y : MethodName} {ws ws' : List Cond} {rm : Room} {cc : ByteArray} {maxL mc ms : Nat} {ret : Option FieldType} {as : List Value} {D : va_G} {tys : List (ClassId × FieldType)} {w : va_W} {Qr : Option Value → va_W → Prop}
    (hy : plainName y.cls = true) (hw : ws = Cond.code y cc maxL ret :: ws') (hlen : (lg_sl as).length ≤ maxL)
    (body : ∀ (p : Program) (e : Env) (s : State) (m : MethodId) (args : Array Value) (below : List Frame) (meth : Method) (c : Code) (ls : Array Slot) (A : Nat → Prop), Hx p s m args meth c cc ret maxL ws y.cls y.name → ev s → va_P D vwCl w s.heap → va_K D vwCl tys s → va_D A w → va_S A s.heap s.heap [] → (∀ q, s.heap.size ≤ q → A q) → lv_has ls maxL (lv_args 0 as) →
      ∀ Q : State → Prop, Q = MQ below (qcM D A Qr) args s mc ms A → W p l e rm s m args below meth c s.heap [] 0 0 Q (F0 m 0 ls [])) : cM l y ws rm as D tys w Qr mc ms := by
  intro sz
  refine Met.ofW (cc := cc) (maxL := maxL) (ret := ret) hy hw ?_
  intro p e s m args below meth c s₁ B hml hv
  obtain ⟨ha, hsz, hE, hP, hK, hD⟩ := hv
  have hX := hx_of B hml
  rw [ha] at hX ⊢
  exact en_fr hlen (fun ls hl => body p e s m _ below meth c ls _ hX hE hP hK hD.self va_S.rf (fun q h => Or.inr (by rw [← hsz]; exact h)) hl _ rfl)
theorem en_T {l : Launch} {y : MethodName} {ws ws' : List Cond} {rm : Room} {cc : ByteArray} {maxL mc ms : Nat} {ret : Option FieldType} {as : List Value} {D : va_G} {tys : List (ClassId × FieldType)} {w : va_W} {Qr : Option Value → Prop} {TX : String → Prop}
    (hy : plainName y.cls = true) (hw : ws = Cond.code y cc maxL ret :: ws') (hlen : (lg_sl as).length ≤ maxL)
    (body : ∀ (p : Program) (e : Env) (s : State) (m : MethodId) (args : Array Value) (below : List Frame) (meth : Method) (c : Code) (ls : Array Slot), Hx p s m args meth c cc ret maxL ws y.cls y.name → ev s → va_P D vwCl w s.heap → va_K D vwCl tys s → Zs (fun q => s.heap.size ≤ q) s s.heap → (∀ x ∈ c.exceptionTable.toList, False) → lv_has ls maxL (lv_args 0 as) →
      ∀ Q : State → Prop, Q = vx_MQ below (qcT Qr) (xcT TX) args s mc ms (fun _ => False) → W p l e rm s m args below meth c s.heap [] 0 0 Q (F0 m 0 ls [])) : cT l y ws rm as D tys w Qr TX mc ms := by
  refine vx_ofW (cc := cc) (maxL := maxL) (ret := ret) hy hw ?_
  intro p e s m args below meth c s₁ B hml ht hv
  obtain ⟨ha, hE, hP, hK, hZ⟩ := hv
  have hX := hx_of B hml
  rw [ha] at hX ⊢
  exact en_fr hlen (fun ls hl => body p e s m _ below meth c ls hX hE hP hK hZ ht hl _ rfl)
theorem en_X {l : Launch} {y : MethodName} {ws ws' : List Cond} {rm : Room} {cc : ByteArray} {maxL mc ms : Nat} {ret : Option FieldType} {as : List Value} {D : va_G} {tys : List (ClassId × FieldType)} {w : va_W} {Qr : Option Value → va_W → Prop} {TX : String → Prop}
    (hy : plainName y.cls = true) (hw : ws = Cond.code y cc maxL ret :: ws') (hlen : (lg_sl as).length ≤ maxL)
    (body : ∀ (p : Program) (e : Env) (s : State) (m : MethodId) (args : Array Value) (below : List Frame) (meth : Method) (c : Code) (ls : Array Slot) (A : Nat → Prop), Hx p s m args meth c cc ret maxL ws y.cls y.name → ev s → va_P D vwCl w s.heap → va_K D vwCl tys s → va_D A w → va_S A s.heap s.heap [] → (∀ q, s.heap.size ≤ q → A q) → Zs (fun q => s.heap.size ≤ q) s s.heap → (∀ x ∈ c.exceptionTable.toList, False) → lv_has ls maxL (lv_args 0 as) →
      ∀ Q : State → Prop, Q = vx_MQ below (qcM D A Qr) (xcT TX) args s mc ms A → W p l e rm s m args below meth c s.heap [] 0 0 Q (F0 m 0 ls [])) : cX l y ws rm as D tys w Qr TX mc ms := by
  intro sz
  refine vx_ofW (cc := cc) (maxL := maxL) (ret := ret) hy hw ?_
  intro p e s m args below meth c s₁ B hml ht hv
  obtain ⟨ha, hsz, hE, hP, hK, hD, hZ⟩ := hv
  have hX := hx_of B hml
  rw [ha] at hX ⊢
  exact en_fr hlen (fun ls hl => body p e s m _ below meth c ls _ hX hE hP hK hD.self va_S.rf (fun q h => Or.inr (by rw [← hsz]; exact h)) hZ ht hl _ rfl)
