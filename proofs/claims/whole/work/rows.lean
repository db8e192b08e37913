section
-- ===== PART A: goes FIRST, ahead of the names: the tables' words, and 'selects' of the private methods out of them =====
/-- a private method of a class that the tables say can be made, by its rows of tables_1 -/
def lw_okq (q : MethodName × Nat) : Prop := (q.1.cls ≠ "java/lang/invoke/MethodHandle" ∧ q.1.cls ≠ "java/lang/invoke/VarHandle") ∧ Cond.instantiable q.1.cls q.2 ∈ tables_1 ∧ Cond.privateMethod q.1 ∈ tables_1 ∧ Cond.instanceMethod q.1 ∈ tables_1
theorem lw_p0 : lw_okq (⟨"java/lang/Throwable", "fillInStackTrace", "(I)Ljava/lang/Throwable;"⟩, 6) := ⟨⟨by decide +kernel, by decide +kernel⟩, List.mem_of_getElem? (i := 200) (by decide +kernel), List.mem_of_getElem? (i := 198) (by decide +kernel), List.mem_of_getElem? (i := 199) (by decide +kernel)⟩
theorem lw_p1 : lw_okq (⟨"MarkdownPlanner$Season", "startAnew", "(I)V"⟩, 7) := ⟨⟨by decide +kernel, by decide +kernel⟩, List.mem_of_getElem? (i := 22) (by decide +kernel), List.mem_of_getElem? (i := 230) (by decide +kernel), List.mem_of_getElem? (i := 231) (by decide +kernel)⟩
theorem lw_p2 : lw_okq (⟨"MarkdownPlanner$Store", "startAnew", "()V"⟩, 5) := ⟨⟨by decide +kernel, by decide +kernel⟩, List.mem_of_getElem? (i := 105) (by decide +kernel), List.mem_of_getElem? (i := 234) (by decide +kernel), List.mem_of_getElem? (i := 235) (by decide +kernel)⟩
theorem lw_p3 : lw_okq (⟨"MarkdownPlanner$Season", "keepsLadderDown", "(II)Z"⟩, 7) := ⟨⟨by decide +kernel, by decide +kernel⟩, List.mem_of_getElem? (i := 22) (by decide +kernel), List.mem_of_getElem? (i := 249) (by decide +kernel), List.mem_of_getElem? (i := 250) (by decide +kernel)⟩
theorem lw_p4 : lw_okq (⟨"MarkdownPlanner", "storeOf", "(I)LMarkdownPlanner$Store;"⟩, 3) := ⟨⟨by decide +kernel, by decide +kernel⟩, List.mem_of_getElem? (i := 14) (by decide +kernel), List.mem_of_getElem? (i := 276) (by decide +kernel), List.mem_of_getElem? (i := 277) (by decide +kernel)⟩
theorem lw_p5 : lw_okq (⟨"MarkdownPlanner$Store", "wholeStock", "()I"⟩, 5) := ⟨⟨by decide +kernel, by decide +kernel⟩, List.mem_of_getElem? (i := 105) (by decide +kernel), List.mem_of_getElem? (i := 300) (by decide +kernel), List.mem_of_getElem? (i := 301) (by decide +kernel)⟩
theorem lw_p6 : lw_okq (⟨"MarkdownPlanner", "requireSeasonOn", "()V"⟩, 3) := ⟨⟨by decide +kernel, by decide +kernel⟩, List.mem_of_getElem? (i := 14) (by decide +kernel), List.mem_of_getElem? (i := 312) (by decide +kernel), List.mem_of_getElem? (i := 313) (by decide +kernel)⟩
theorem lw_p7 : lw_okq (⟨"MarkdownPlanner$Store", "waitFrom", "(II)I"⟩, 5) := ⟨⟨by decide +kernel, by decide +kernel⟩, List.mem_of_getElem? (i := 105) (by decide +kernel), List.mem_of_getElem? (i := 318) (by decide +kernel), List.mem_of_getElem? (i := 319) (by decide +kernel)⟩
theorem lw_p8 : lw_okq (⟨"MarkdownPlanner$Store", "sellForAWeek", "()I"⟩, 5) := ⟨⟨by decide +kernel, by decide +kernel⟩, List.mem_of_getElem? (i := 105) (by decide +kernel), List.mem_of_getElem? (i := 342) (by decide +kernel), List.mem_of_getElem? (i := 343) (by decide +kernel)⟩
theorem lw_p9 : lw_okq (⟨"MarkdownPlanner$Store", "salesAt", "(I)I"⟩, 5) := ⟨⟨by decide +kernel, by decide +kernel⟩, List.mem_of_getElem? (i := 105) (by decide +kernel), List.mem_of_getElem? (i := 346) (by decide +kernel), List.mem_of_getElem? (i := 347) (by decide +kernel)⟩
theorem lw_p10 : lw_okq (⟨"MarkdownPlanner$Store", "sizesInStock", "()I"⟩, 5) := ⟨⟨by decide +kernel, by decide +kernel⟩, List.mem_of_getElem? (i := 105) (by decide +kernel), List.mem_of_getElem? (i := 350) (by decide +kernel), List.mem_of_getElem? (i := 351) (by decide +kernel)⟩
theorem lw_p11 : lw_okq (⟨"MarkdownPlanner$Store", "fullestSize", "()I"⟩, 5) := ⟨⟨by decide +kernel, by decide +kernel⟩, List.mem_of_getElem? (i := 105) (by decide +kernel), List.mem_of_getElem? (i := 358) (by decide +kernel), List.mem_of_getElem? (i := 359) (by decide +kernel)⟩
theorem lw_p12 : lw_okq (⟨"MarkdownPlanner$Plans", "lookAt", "(LMarkdownPlanner$Season;LMarkdownPlanner$Store;)V"⟩, 12) := ⟨⟨by decide +kernel, by decide +kernel⟩, List.mem_of_getElem? (i := 63) (by decide +kernel), List.mem_of_getElem? (i := 405) (by decide +kernel), List.mem_of_getElem? (i := 406) (by decide +kernel)⟩
theorem lw_p13 : lw_okq (⟨"MarkdownPlanner$Plans", "greatestWorth", "(I)I"⟩, 12) := ⟨⟨by decide +kernel, by decide +kernel⟩, List.mem_of_getElem? (i := 63) (by decide +kernel), List.mem_of_getElem? (i := 415) (by decide +kernel), List.mem_of_getElem? (i := 416) (by decide +kernel)⟩
theorem lw_p14 : lw_okq (⟨"MarkdownPlanner$Plans", "tellWorths", "(I)V"⟩, 12) := ⟨⟨by decide +kernel, by decide +kernel⟩, List.mem_of_getElem? (i := 63) (by decide +kernel), List.mem_of_getElem? (i := 419) (by decide +kernel), List.mem_of_getElem? (i := 420) (by decide +kernel)⟩
theorem lw_p15 : lw_okq (⟨"MarkdownPlanner$Plans", "worthOfChoosing", "(III)I"⟩, 12) := ⟨⟨by decide +kernel, by decide +kernel⟩, List.mem_of_getElem? (i := 63) (by decide +kernel), List.mem_of_getElem? (i := 426) (by decide +kernel), List.mem_of_getElem? (i := 427) (by decide +kernel)⟩
def lw_privs_1 : List (MethodName × Nat) := [(⟨"java/lang/Throwable", "fillInStackTrace", "(I)Ljava/lang/Throwable;"⟩, 6), (⟨"MarkdownPlanner$Season", "startAnew", "(I)V"⟩, 7), (⟨"MarkdownPlanner$Store", "startAnew", "()V"⟩, 5), (⟨"MarkdownPlanner$Season", "keepsLadderDown", "(II)Z"⟩, 7), (⟨"MarkdownPlanner", "storeOf", "(I)LMarkdownPlanner$Store;"⟩, 3), (⟨"MarkdownPlanner$Store", "wholeStock", "()I"⟩, 5), (⟨"MarkdownPlanner", "requireSeasonOn", "()V"⟩, 3), (⟨"MarkdownPlanner$Store", "waitFrom", "(II)I"⟩, 5), (⟨"MarkdownPlanner$Store", "sellForAWeek", "()I"⟩, 5), (⟨"MarkdownPlanner$Store", "salesAt", "(I)I"⟩, 5), (⟨"MarkdownPlanner$Store", "sizesInStock", "()I"⟩, 5), (⟨"MarkdownPlanner$Store", "fullestSize", "()I"⟩, 5), (⟨"MarkdownPlanner$Plans", "lookAt", "(LMarkdownPlanner$Season;LMarkdownPlanner$Store;)V"⟩, 12), (⟨"MarkdownPlanner$Plans", "greatestWorth", "(I)I"⟩, 12), (⟨"MarkdownPlanner$Plans", "tellWorths", "(I)V"⟩, 12), (⟨"MarkdownPlanner$Plans", "worthOfChoosing", "(III)I"⟩, 12)]
theorem lw_r1 : ∀ q ∈ lw_privs_1, lw_okq q := List.forall_mem_cons.mpr ⟨lw_p0, List.forall_mem_cons.mpr ⟨lw_p1, List.forall_mem_cons.mpr ⟨lw_p2, List.forall_mem_cons.mpr ⟨lw_p3, List.forall_mem_cons.mpr ⟨lw_p4, List.forall_mem_cons.mpr ⟨lw_p5, List.forall_mem_cons.mpr ⟨lw_p6, List.forall_mem_cons.mpr ⟨lw_p7, List.forall_mem_cons.mpr ⟨lw_p8, List.forall_mem_cons.mpr ⟨lw_p9, List.forall_mem_cons.mpr ⟨lw_p10, List.forall_mem_cons.mpr ⟨lw_p11, List.forall_mem_cons.mpr ⟨lw_p12, List.forall_mem_cons.mpr ⟨lw_p13, List.forall_mem_cons.mpr ⟨lw_p14, List.forall_mem_cons.mpr ⟨lw_p15, fun _ h => absurd h List.not_mem_nil⟩⟩⟩⟩⟩⟩⟩⟩⟩⟩⟩⟩⟩⟩⟩⟩
theorem lw_p16 : lw_okq (⟨"MarkdownPlanner$Plans", "worthOfTaking", "(IIII)I"⟩, 12) := ⟨⟨by decide +kernel, by decide +kernel⟩, List.mem_of_getElem? (i := 63) (by decide +kernel), List.mem_of_getElem? (i := 430) (by decide +kernel), List.mem_of_getElem? (i := 431) (by decide +kernel)⟩
theorem lw_p17 : lw_okq (⟨"MarkdownPlanner$Plans", "worthOfKeeping", "(IIII)I"⟩, 12) := ⟨⟨by decide +kernel, by decide +kernel⟩, List.mem_of_getElem? (i := 63) (by decide +kernel), List.mem_of_getElem? (i := 434) (by decide +kernel), List.mem_of_getElem? (i := 435) (by decide +kernel)⟩
theorem lw_p18 : lw_okq (⟨"MarkdownPlanner$Plans", "worthFrom", "(III)I"⟩, 12) := ⟨⟨by decide +kernel, by decide +kernel⟩, List.mem_of_getElem? (i := 63) (by decide +kernel), List.mem_of_getElem? (i := 438) (by decide +kernel), List.mem_of_getElem? (i := 439) (by decide +kernel)⟩
theorem lw_p19 : lw_okq (⟨"MarkdownPlanner$Plans", "greatestWorthByAll", "()I"⟩, 12) := ⟨⟨by decide +kernel, by decide +kernel⟩, List.mem_of_getElem? (i := 63) (by decide +kernel), List.mem_of_getElem? (i := 451) (by decide +kernel), List.mem_of_getElem? (i := 452) (by decide +kernel)⟩
theorem lw_p20 : lw_okq (⟨"MarkdownPlanner$Plans", "worthOfLadder", "(I)I"⟩, 12) := ⟨⟨by decide +kernel, by decide +kernel⟩, List.mem_of_getElem? (i := 63) (by decide +kernel), List.mem_of_getElem? (i := 456) (by decide +kernel), List.mem_of_getElem? (i := 457) (by decide +kernel)⟩
theorem lw_p21 : lw_okq (⟨"MarkdownPlanner$Plans", "turnToNextLadder", "(I)Z"⟩, 12) := ⟨⟨by decide +kernel, by decide +kernel⟩, List.mem_of_getElem? (i := 63) (by decide +kernel), List.mem_of_getElem? (i := 460) (by decide +kernel), List.mem_of_getElem? (i := 461) (by decide +kernel)⟩
theorem lw_p22 : lw_okq (⟨"MarkdownPlanner$Plans", "bestStepIn", "(I)I"⟩, 12) := ⟨⟨by decide +kernel, by decide +kernel⟩, List.mem_of_getElem? (i := 63) (by decide +kernel), List.mem_of_getElem? (i := 471) (by decide +kernel), List.mem_of_getElem? (i := 472) (by decide +kernel)⟩
theorem lw_p23 : lw_okq (⟨"MarkdownPlanner$Plans", "lowestBestStep", "(III)I"⟩, 12) := ⟨⟨by decide +kernel, by decide +kernel⟩, List.mem_of_getElem? (i := 63) (by decide +kernel), List.mem_of_getElem? (i := 475) (by decide +kernel), List.mem_of_getElem? (i := 476) (by decide +kernel)⟩
theorem lw_p24 : lw_okq (⟨"MarkdownPlannerModel", "asked", "(Z)Z"⟩, 14) := ⟨⟨by decide +kernel, by decide +kernel⟩, List.mem_of_getElem? (i := 486) (by decide +kernel), List.mem_of_getElem? (i := 546) (by decide +kernel), List.mem_of_getElem? (i := 547) (by decide +kernel)⟩
theorem lw_p25 : lw_okq (⟨"MarkdownPlannerModel", "asked", "(ZZ)Z"⟩, 14) := ⟨⟨by decide +kernel, by decide +kernel⟩, List.mem_of_getElem? (i := 486) (by decide +kernel), List.mem_of_getElem? (i := 557) (by decide +kernel), List.mem_of_getElem? (i := 558) (by decide +kernel)⟩
theorem lw_p26 : lw_okq (⟨"MarkdownPlannerModel", "whole", "(I)I"⟩, 14) := ⟨⟨by decide +kernel, by decide +kernel⟩, List.mem_of_getElem? (i := 486) (by decide +kernel), List.mem_of_getElem? (i := 579) (by decide +kernel), List.mem_of_getElem? (i := 580) (by decide +kernel)⟩
theorem lw_p27 : lw_okq (⟨"MarkdownPlannerModel", "waits", "(I)I"⟩, 14) := ⟨⟨by decide +kernel, by decide +kernel⟩, List.mem_of_getElem? (i := 486) (by decide +kernel), List.mem_of_getElem? (i := 587) (by decide +kernel), List.mem_of_getElem? (i := 588) (by decide +kernel)⟩
theorem lw_p28 : lw_okq (⟨"MarkdownPlannerModel", "sells", "(II)I"⟩, 14) := ⟨⟨by decide +kernel, by decide +kernel⟩, List.mem_of_getElem? (i := 486) (by decide +kernel), List.mem_of_getElem? (i := 599) (by decide +kernel), List.mem_of_getElem? (i := 600) (by decide +kernel)⟩
theorem lw_p29 : lw_okq (⟨"MarkdownPlannerModel", "told", "(I)I"⟩, 14) := ⟨⟨by decide +kernel, by decide +kernel⟩, List.mem_of_getElem? (i := 486) (by decide +kernel), List.mem_of_getElem? (i := 607) (by decide +kernel), List.mem_of_getElem? (i := 608) (by decide +kernel)⟩
theorem lw_p30 : lw_okq (⟨"MarkdownPlannerModel", "finds", "(II)I"⟩, 14) := ⟨⟨by decide +kernel, by decide +kernel⟩, List.mem_of_getElem? (i := 486) (by decide +kernel), List.mem_of_getElem? (i := 639) (by decide +kernel), List.mem_of_getElem? (i := 640) (by decide +kernel)⟩
theorem lw_p31 : lw_okq (⟨"MarkdownPlannerModel", "worthOf", "(IIIIII)I"⟩, 14) := ⟨⟨by decide +kernel, by decide +kernel⟩, List.mem_of_getElem? (i := 486) (by decide +kernel), List.mem_of_getElem? (i := 643) (by decide +kernel), List.mem_of_getElem? (i := 644) (by decide +kernel)⟩
def lw_privs_2 : List (MethodName × Nat) := [(⟨"MarkdownPlanner$Plans", "worthOfTaking", "(IIII)I"⟩, 12), (⟨"MarkdownPlanner$Plans", "worthOfKeeping", "(IIII)I"⟩, 12), (⟨"MarkdownPlanner$Plans", "worthFrom", "(III)I"⟩, 12), (⟨"MarkdownPlanner$Plans", "greatestWorthByAll", "()I"⟩, 12), (⟨"MarkdownPlanner$Plans", "worthOfLadder", "(I)I"⟩, 12), (⟨"MarkdownPlanner$Plans", "turnToNextLadder", "(I)Z"⟩, 12), (⟨"MarkdownPlanner$Plans", "bestStepIn", "(I)I"⟩, 12), (⟨"MarkdownPlanner$Plans", "lowestBestStep", "(III)I"⟩, 12), (⟨"MarkdownPlannerModel", "asked", "(Z)Z"⟩, 14), (⟨"MarkdownPlannerModel", "asked", "(ZZ)Z"⟩, 14), (⟨"MarkdownPlannerModel", "whole", "(I)I"⟩, 14), (⟨"MarkdownPlannerModel", "waits", "(I)I"⟩, 14), (⟨"MarkdownPlannerModel", "sells", "(II)I"⟩, 14), (⟨"MarkdownPlannerModel", "told", "(I)I"⟩, 14), (⟨"MarkdownPlannerModel", "finds", "(II)I"⟩, 14), (⟨"MarkdownPlannerModel", "worthOf", "(IIIIII)I"⟩, 14)]
theorem lw_r2 : ∀ q ∈ lw_privs_2, lw_okq q := List.forall_mem_cons.mpr ⟨lw_p16, List.forall_mem_cons.mpr ⟨lw_p17, List.forall_mem_cons.mpr ⟨lw_p18, List.forall_mem_cons.mpr ⟨lw_p19, List.forall_mem_cons.mpr ⟨lw_p20, List.forall_mem_cons.mpr ⟨lw_p21, List.forall_mem_cons.mpr ⟨lw_p22, List.forall_mem_cons.mpr ⟨lw_p23, List.forall_mem_cons.mpr ⟨lw_p24, List.forall_mem_cons.mpr ⟨lw_p25, List.forall_mem_cons.mpr ⟨lw_p26, List.forall_mem_cons.mpr ⟨lw_p27, List.forall_mem_cons.mpr ⟨lw_p28, List.forall_mem_cons.mpr ⟨lw_p29, List.forall_mem_cons.mpr ⟨lw_p30, List.forall_mem_cons.mpr ⟨lw_p31, fun _ h => absurd h List.not_mem_nil⟩⟩⟩⟩⟩⟩⟩⟩⟩⟩⟩⟩⟩⟩⟩⟩
def lw_privs : List (MethodName × Nat) := lw_privs_1 ++ (lw_privs_2)
def lw_tbl : List Cond := k2_sels lw_privs ++ tables_1
theorem lw_privs_ok : ∀ q ∈ lw_privs, lw_okq q := by
  show ∀ q ∈ lw_privs_1 ++ (lw_privs_2), lw_okq q
  exact List.forall_mem_append.mpr ⟨lw_r1, lw_r2⟩
-- ===== end of PART A; then your names; then what follows =====
end
section
/-! ===== BEGIN words of one list among another's, by their places ===== -/
theorem goodIn_r {big : List Cond} (ws : List Cond) (ps : List Nat) (hp : ws = ps.filterMap (fun i => big[i]?)) (h : ws.all goodWord = true) : GoodIn big ws := by
  intro w hw
  have h1 := List.all_eq_true.mp h w hw
  rw [hp] at hw
  obtain ⟨i, -, hi⟩ := List.mem_filterMap.mp hw
  have hm : w ∈ big := by first | exact List.mem_of_getElem? hi | exact List.getElem?_mem hi
  exact ⟨hm, good_of_word h1⟩
theorem goodIn_app {big a b : List Cond} (ha : GoodIn big a) (hb : GoodIn big b) : GoodIn big (a ++ b) := fun w h => (List.mem_append.mp h).elim (ha w) (hb w)
theorem goodIn_ca {big a b : List Cond} {c : Cond} (ha : GoodIn big (c :: a)) (hb : GoodIn big b) : GoodIn big (c :: (a ++ b)) := fun w h => (List.mem_cons.mp h).elim (fun e => ha w (List.mem_cons.mpr (Or.inl e))) (fun h => (List.mem_append.mp h).elim (fun h => ha w (List.mem_cons.mpr (Or.inr h))) (hb w))
theorem goodIn_sub {big ws : List Cond} (hm : ∀ w ∈ ws, w ∈ big) (h : ws.all goodWord = true) : GoodIn big ws := fun w hw => ⟨hm w hw, good_of_word (List.all_eq_true.mp h w hw)⟩
/-! ===== END ===== -/

/-! ===== BEGIN exceptions that leave a method, and their catching by the caller (launches without stack traces) ===== -/
section VXA
/-! The laws vx_back, vx_callV, vx_callS, vx_callSW, vx_throw0, vx_throwS follow proofs of the library, with one case more: JvmDerived/Free/Laws.lean (Back.of_free), Shelf42/LK1.lean (callV, callS), Shelf/KitTraced.lean (throwNew0V, throwNewS). -/
/-- where a method has thrown q: the class by its name, the cell, what was written, the world -/
def vx_T (XC : String → State → State → Prop) (st : State) (q : Addr) (t : State) (mc ms : Nat) (free : Addr → Prop) : Prop :=
  ∃ (E : String) (ce : Cell) (L : List Loc), XC E st t ∧ t.heap[q]? = some ce ∧ ce.vm = .none ∧ st.vm.findClass E = some ce.cls ∧ st.WarmedH t.vm ∧ st.sameButNew ({ t with vm := st.vm } : State) L mc ms ∧ ∀ z ∈ L, free z.base
def vx_Q (Qc : Array Value → State → Outcome → State → Prop) (XC : String → State → State → Prop) (mc ms : Nat) (free : Addr → Prop) : Array Value → State → Outcome → State → Prop := fun a st o t =>
  (Qc a st o t ∧ ∃ L, FrameEnd st o t L mc ms ∧ ∀ q ∈ L, free q.base) ∨ ∃ q, o = .threw q ∧ vx_T XC st q t mc ms free
/-- a callee that returns or throws -/
def vx_Met (l : Launch) (y : MethodName) (ws : List Cond) (rm : Room) (Pc : Array Value → State → Prop) (Qc : Array Value → State → Outcome → State → Prop) (XC : String → State → State → Prop) (mc ms : Nat) (free : Addr → Prop) : Prop :=
  MetFree l y (headSpec ws rm) Pc (fun _ _ _ _ _ => True) (vx_Q Qc XC mc ms free)
def vx_Post (XC : String → State → State → Prop) (mc ms : Nat) (free : Addr → Prop) : Pt → Array Value → Addr → Pt → Prop := fun A a q B =>
  ∃ (g : JFrame) (mk : MethodId) (t : State) (L : List Loc) (E : String) (ce : Cell), B.U.heap = t.heap ∧ B.U.vm = t.vm ∧ XC E (A.U.calling g mk a) t ∧ t.heap[q]? = some ce ∧ ce.vm = .none ∧ A.U.vm.findClass E = some ce.cls ∧ B.locs = A.locs ++ L ∧ (∀ z ∈ L, free z.base) ∧ B.cells = A.cells + mc ∧ B.slots = A.slots + ms
def vx_Back (l : Launch) (R : Room) (p : Program) (e : Env) (below : List Frame) (s : State) (sargs : Array Value) (y : MethodName) (len W9 : Nat)
    (Pre : Pt → Array Value → Prop) (Post : Pt → Array Value → Option Value → Pt → Prop) (PostX : Pt → Array Value → Addr → Pt → Prop) : Prop :=
  ∀ (m : MethodId) (meth : Method) (c : Code) (A : Pt) (g : JFrame) (ig : Instr) (mk : MethodId) (a : Array Value),
    Stand p l e R s m sargs below meth c A.U A.locs A.cells A.slots → g.method = m → g.locals.size = c.maxLocals → decode c.code g.pc = .ok (ig, len) →
    2 * g.monitorRoom + (g.stack.map fun v => v.category).sum ≤ W9 → A.U.methodNamed? y = some mk → Pre A a →
    (∃ (v : Option Value) (B : Pt), Stand p l e R s m sargs below meth c B.U B.locs B.cells B.slots ∧ Post A a v B ∧
      Steps p.tables e below (doInvoke e (A.U.setTop g) [] mk a).1 (B.U.setTop { g with pc := g.pc + len, stack := v.toList ++ g.stack })) ∨
    (∃ (q : Addr) (B : Pt), Stand p l e R s m sargs below meth c B.U B.locs B.cells B.slots ∧ PostX A a q B ∧
      Steps p.tables e below (doInvoke e (A.U.setTop g) [] mk a).1 ((B.U.setTop g).pushFrame (.throwing q)))
section Payer
variable {l : Launch} {R : Room} {p : Program} {e : Env} {below : List Frame} {s : State} {sargs : Array Value} {y : MethodName} {len W9 : Nat}
theorem vx_back {ws : List Cond} {rm : Room} {Pc : Array Value → State → Prop} {Qc : Array Value → State → Outcome → State → Prop} {XC : String → State → State → Prop} {mc ms : Nat} {free : Addr → Prop} {bytes : ByteArray} {maxL : Nat} {ret : Option FieldType}
    (hM : vx_Met l y ws rm Pc Qc XC mc ms free) (hblind : FrameBlind Pc) (hrc : rm.cells = mc) (hrs : rm.slots = ms)
    (hframes : rm.frames + 1 ≤ R.frames) (hlocals : W9 + (maxL + 11) + rm.locals ≤ R.locals)
    (hws : ∀ w ∈ ws, ∀ a' U, s.WarmedH U.vm → w.before a' U = true) (hcode : Cond.code y bytes maxL ret ∈ ws) (hinit : ∀ a' U, s.WarmedH U.vm → (Cond.initialized y.cls).before a' U = true) :
    vx_Back l R p e below s sargs y len W9 (PreOf R mc ms Pc) (PostOf Qc mc ms free) (vx_Post XC mc ms free) := by
  intro m meth c A g ig mk a X hg hsize hdg hW hn hp
  have h1 : (headSpec ws rm).pre.before a A.U = true := atoms_intro fun w hw => hws w hw _ _ X.warmed
  have h2 : (Cond.code y bytes maxL ret).before a A.U = true := hws _ hcode _ _ X.warmed
  have h3 : (Cond.initialized y.cls).before a A.U = true := hinit _ _ X.warmed
  have h4 : A.cells + (headSpec ws rm).room.cells ≤ R.cells := by rw [show (headSpec ws rm).room.cells = mc from hrc]; exact hp.1
  have h5 : A.slots + (headSpec ws rm).room.slots ≤ R.slots := by rw [show (headSpec ws rm).room.slots = ms from hrs]; exact hp.2.1
  have hPc : Pc a (A.U.calling g mk a) := hblind _ _ _ _ hp.2.2
  obtain ⟨U, Ls, c0, s0⟩ := A
  dsimp only [Pt.U, Pt.locs, Pt.cells, Pt.slots] at h1 h2 h3 h4 h5 X hn hPc ⊢
  obtain ⟨methY, cY, hmY, hcY, -, hlY, -, -, -, -⟩ := Cond.code_spec hn h2
  obtain ⟨kY, hkY, -⟩ := className_of_methodNamed hn
  have hinitY : kY.init = .initialized := Cond.initialized_spec (findClass_of_methodNamed hn) hkY h3
  have h : At U g.method c below := by rw [hg]; exact X.here
  have hlocals9 : W9 + (maxL + 11) + (headSpec ws rm).room.locals ≤ R.locals := hlocals
  have happ : (headSpec ws rm).appliesLoose y e.platform (U.calling g mk a) = true :=
    Spec.appliesLoose_calling (g := g) h hdg hn hkY hinitY
      (X.room_calling (g := g) (R' := (headSpec ws rm).room) hsize hmY hcY hframes (by rw [hlY]; omega) h4 h5) h1
  obtain ⟨mid, hmid⟩ := h.above
  have hfr : (U.setTop g).frames = (.java g :: mid) ++ below := by rw [State.frames_setTop' g h.top, hmid]; rfl
  obtain ⟨o, s₂, hsteps, -, hend, hq⟩ := Steps.callFree hM p X.admits X.cas X.clock (acts := []) hfr happ hPc trivial
  have hq' : vx_Q Qc XC mc ms free a (U.calling g mk a) o s₂ := hq
  rw [State.frames_setTop' g h.top] at hend
  obtain ⟨g₀, hg0⟩ := Option.isSome_iff_exists.mp h.top
  obtain ⟨r, hr⟩ := State.topJava?_eq_some.mp hg0
  have hr' : (({ U with heap := s₂.heap, slotsUsed := s₂.slotsUsed } : State).setVm s₂.vm).frames = .java g₀ :: r := hr
  rcases hq' with ⟨hqc, L, hfe, hL⟩ | ⟨q, rfl, E, ce, L, hx, hce, hcv, hcl, hW₂, hsm, hL⟩
  · obtain ⟨⟨v, rfl⟩, hW₂, e2, q2, q3, q4, q5, q6⟩ := id hfe
    have e3 : s₂ = ({ (U.calling g mk a).setFrames s₂.frames with heap := s₂.heap, slotsUsed := s₂.slotsUsed } : State).setVm s₂.vm := by
      have : s₂ = ({ s₂ with vm := (U.calling g mk a).vm } : State).setVm s₂.vm := rfl
      rw [e2] at this
      exact this
    obtain ⟨c₂, i₂, len₂, hc₂, hd₂, hf₂⟩ := hend
    have hW' : U.WarmedH s₂.vm := hW₂
    have hcc : c₂ = c := by
      have h1 : s₂.code? g.method = U.code? g.method := by
        rw [State.code?_eq, State.code?_eq, hW'.alike.method?]
      exact Option.some.inj (hc₂.symm.trans (h1.trans h.code))
    subst hcc
    have hlen : len₂ = len := by rw [hdg] at hd₂; cases hd₂; rfl
    subst hlen
    have hs₂ : s₂ = (({ U with heap := s₂.heap, slotsUsed := s₂.slotsUsed } : State).setVm s₂.vm).setTop { g with pc := g.pc + len₂, stack := v.toList ++ g.stack } := by
      refine e3.trans ?_
      rw [hf₂, State.calling_eq h.top, State.setFrames_setFrames, State.setTop_of_frames _ hr', hr]
      rfl
    have hsame : U.sameButNew ({ U with heap := s₂.heap, slotsUsed := s₂.slotsUsed } : State) L mc ms := by
      refine ⟨?_, q2, q3, q4, q5, q6⟩
      obtain ⟨t, ht, -⟩ := State.frames_cons hr
      show ({ U with heap := s₂.heap, slotsUsed := s₂.slotsUsed } : State) = { U.setFrames U.frames with heap := s₂.heap, slotsUsed := s₂.slotsUsed }
      rw [State.setFrames_self ht]
    subst hg
    refine Or.inl ⟨v, ⟨(({ U with heap := s₂.heap, slotsUsed := s₂.slotsUsed } : State).setVm s₂.vm), Ls ++ L, c0 + mc, s0 + ms⟩,
      ⟨X.admits, X.cas, X.clock, X.frames, X.room, X.hears, X.method, X.code, (X.here.setHeapUsed s₂.heap s₂.slotsUsed).setVm hW'.alike, X.tail, State.WarmedH.trans X.warmed hW', X.limits, X.bytes, X.same.trans (hsame.setVm s.vm)⟩,
      ⟨g, mk, s₂, L, rfl, rfl, hqc, rfl, hL, rfl, rfl⟩, ?_⟩
    show Steps p.tables e below _ ((({ U with heap := s₂.heap, slotsUsed := s₂.slotsUsed } : State).setVm s₂.vm).setTop { g with pc := g.pc + len₂, stack := v.toList ++ g.stack })
    rw [← hs₂]
    exact hsteps
  · obtain ⟨e2, q2, q3, q4, q5, q6⟩ := id hsm
    have e3 : s₂ = ({ (U.calling g mk a).setFrames s₂.frames with heap := s₂.heap, slotsUsed := s₂.slotsUsed } : State).setVm s₂.vm := by
      have : s₂ = ({ s₂ with vm := (U.calling g mk a).vm } : State).setVm s₂.vm := rfl
      rw [e2] at this
      exact this
    have hf₂ : s₂.frames = .throwing q :: .java g :: U.frames.tail := hend
    have hW' : U.WarmedH s₂.vm := hW₂
    have hs₂ : s₂ = ((({ U with heap := s₂.heap, slotsUsed := s₂.slotsUsed } : State).setVm s₂.vm).setTop g).pushFrame (.throwing q) := by
      refine e3.trans ?_
      rw [hf₂, State.calling_eq h.top, State.setFrames_setFrames, State.pushFrame, State.frames_setTop _ hr', State.setTop_of_frames _ hr', State.setFrames_setFrames, hr]
      rfl
    have hsame : U.sameButNew ({ U with heap := s₂.heap, slotsUsed := s₂.slotsUsed } : State) L mc ms := by
      refine ⟨?_, q2, q3, q4, q5, q6⟩
      obtain ⟨t, ht, -⟩ := State.frames_cons hr
      show ({ U with heap := s₂.heap, slotsUsed := s₂.slotsUsed } : State) = { U.setFrames U.frames with heap := s₂.heap, slotsUsed := s₂.slotsUsed }
      rw [State.setFrames_self ht]
    subst hg
    refine Or.inr ⟨q, ⟨(({ U with heap := s₂.heap, slotsUsed := s₂.slotsUsed } : State).setVm s₂.vm), Ls ++ L, c0 + mc, s0 + ms⟩,
      ⟨X.admits, X.cas, X.clock, X.frames, X.room, X.hears, X.method, X.code, (X.here.setHeapUsed s₂.heap s₂.slotsUsed).setVm hW'.alike, X.tail, State.WarmedH.trans X.warmed hW', X.limits, X.bytes, X.same.trans (hsame.setVm s.vm)⟩,
      ⟨g, mk, s₂, L, E, ce, rfl, rfl, hx, hce, hcv, hcl, rfl, hL, rfl, rfl⟩, ?_⟩
    show Steps p.tables e below _ (((({ U with heap := s₂.heap, slotsUsed := s₂.slotsUsed } : State).setVm s₂.vm).setTop g).pushFrame (.throwing q))
    rw [← hs₂]
    exact hsteps
end Payer
section Calls
variable {p : Program} {l : Launch} {e : Env} {R : Room} {s : State} {m : MethodId} {args : Array Value} {below : List Frame} {meth : Method} {c : Code} {T : State} {locs : List Loc} {cells slots : Nat}
theorem vx_callV (X : Stand p l e R s m args below meth c T locs cells slots) (hexec : p.tables.exec = Jvm.exec) {own C : String} {index : Nat} {y : MethodName} {bytes : ByteArray} {maxL : Nat} {ret : Option FieldType}
    (hown : s.vm.findClass own = some m.cls) (hlink : (Cond.methodLink own index y).before args s = true) (hinst : (Cond.instanceMethod y).before args s = true) (hsel : (Cond.selects C y y).before args s = true)
    (hcode : (Cond.code y bytes maxL ret).before args s = true) (hy : y.cls ≠ "java/lang/invoke/MethodHandle" ∧ y.cls ≠ "java/lang/invoke/VarHandle")
    {W9 : Nat} {Pre : Pt → Array Value → Prop} {Post : Pt → Array Value → Option Value → Pt → Prop} {PostX : Pt → Array Value → Addr → Pt → Prop} (hK : vx_Back l R p e below s args y 3 W9 Pre Post PostX)
    {b : Addr} {cellB : Cell} (hcell : T.heap[b]? = some cellB) (hobj : cellB.vm.isStatics = false) (hcls : s.vm.findClass C = some cellB.cls)
    {g : JFrame} (hg : g.method = m) (hsize : g.locals.size = c.maxLocals) {argsL rest : List Value} (hlen : ∀ sig, parseMethodDescriptor y.desc = some sig → argsL.length = sig.parameters.length)
    (hstack : g.stack = argsL.reverse ++ .ref b :: rest) (hW : 2 * g.monitorRoom + (rest.map fun v => v.category).sum ≤ W9) (hdg : decode c.code g.pc = .ok (.invokevirtual index, 3))
    (hpre : ∀ vm₁, s.WarmedH vm₁ → Pre ⟨T.setVm vm₁, locs, cells, slots⟩ (Value.ref b :: argsL).toArray) :
    (∃ (v : Option Value) (vm₁ : Vm) (B : Pt), s.WarmedH vm₁ ∧ Stand p l e R s m args below meth c B.U B.locs B.cells B.slots ∧ Post ⟨T.setVm vm₁, locs, cells, slots⟩ (Value.ref b :: argsL).toArray v B ∧
      ∀ target, Steps p.tables e below (B.U.setTop { g with pc := g.pc + 3, stack := v.toList ++ rest }) target → Steps p.tables e below (T.setTop g) target) ∨
    (∃ (q : Addr) (vm₁ : Vm) (B : Pt), s.WarmedH vm₁ ∧ Stand p l e R s m args below meth c B.U B.locs B.cells B.slots ∧ PostX ⟨T.setVm vm₁, locs, cells, slots⟩ (Value.ref b :: argsL).toArray q B ∧
      Steps p.tables e below (T.setTop g) ((B.U.setTop { g with stack := rest }).pushFrame (.throwing q))) := by
  obtain ⟨mk, methM, hnamed, hmethM, hstM, habM⟩ := Cond.instanceMethod_spec hinst
  obtain ⟨methM', cM, hmethM', -, -, -, -, -, -, hsigM⟩ := Cond.code_spec hnamed hcode
  cases hmethM.symm.trans hmethM'
  obtain ⟨c2, r2, m2, q1, q2, q3, q4, kP, hkP, hkPi⟩ := Cond.selects_spec hsel
  cases hcls.symm.trans q1
  cases (State.methodFound?_of_named hnamed hy).symm.trans q2
  cases hnamed.symm.trans q3
  have hselP : selectMethod e.platform s.vm cellB.cls mk = .method mk := by rw [Launch.admits_selectMethod X.admits]; exact q4
  obtain ⟨vm₁, X₁, hstep₁⟩ := X.invokevirtual hexec hown hlink hnamed hmethM hstM hkP hkPi hy (a := b) (cell := cellB) hcell
    (fun z h => by rw [h] at hobj; cases hobj) hselP hmethM habM hkP hkPi (g := g) hg (argsL := argsL) (rest := rest) (hlen _ hsigM) hstack hdg
  rcases hK m meth c ⟨T.setVm vm₁, locs, cells, slots⟩ { g with stack := rest } (.invokevirtual index) mk (Value.ref b :: argsL).toArray X₁ hg hsize hdg hW (X₁.named hnamed) (hpre vm₁ X₁.warmed) with ⟨v, B, X', hpost, hsteps⟩ | ⟨q, B, X', hpost, hsteps⟩
  · exact Or.inl ⟨v, vm₁, B, X₁.warmed, X', hpost, fun target h => hstep₁ _ fun acts => by rw [doInvoke_state]; exact hsteps.trans h⟩
  · exact Or.inr ⟨q, vm₁, B, X₁.warmed, X', hpost, hstep₁ _ fun acts => by rw [doInvoke_state]; exact hsteps⟩
theorem vx_callS (X : Stand p l e R s m args below meth c T locs cells slots) (hexec : p.tables.exec = Jvm.exec) {own : String} {index : Nat} {y : MethodName} {bytes : ByteArray} {maxL : Nat} {ret : Option FieldType}
    (hown : s.vm.findClass own = some m.cls) (hlink : (Cond.methodLink own index y).before args s = true) (hstat : (Cond.static y).before args s = true) (hinit : (Cond.initialized y.cls).before args s = true)
    (hcode : (Cond.code y bytes maxL ret).before args s = true) (hy : y.cls ≠ "java/lang/invoke/MethodHandle" ∧ y.cls ≠ "java/lang/invoke/VarHandle")
    {W9 : Nat} {Pre : Pt → Array Value → Prop} {Post : Pt → Array Value → Option Value → Pt → Prop} {PostX : Pt → Array Value → Addr → Pt → Prop} (hK : vx_Back l R p e below s args y 3 W9 Pre Post PostX)
    {g : JFrame} (hg : g.method = m) (hsize : g.locals.size = c.maxLocals) {argsL rest : List Value} (hlen : ∀ sig, parseMethodDescriptor y.desc = some sig → argsL.length = sig.parameters.length)
    (hstack : g.stack = argsL.reverse ++ rest) (hW : 2 * g.monitorRoom + (rest.map fun v => v.category).sum ≤ W9) (hdg : decode c.code g.pc = .ok (.invokestatic index, 3))
    (hpre : ∀ vm₁, s.WarmedH vm₁ → Pre ⟨T.setVm vm₁, locs, cells, slots⟩ argsL.toArray) :
    (∃ (v : Option Value) (vm₁ : Vm) (B : Pt), s.WarmedH vm₁ ∧ Stand p l e R s m args below meth c B.U B.locs B.cells B.slots ∧ Post ⟨T.setVm vm₁, locs, cells, slots⟩ argsL.toArray v B ∧
      ∀ target, Steps p.tables e below (B.U.setTop { g with pc := g.pc + 3, stack := v.toList ++ rest }) target → Steps p.tables e below (T.setTop g) target) ∨
    (∃ (q : Addr) (vm₁ : Vm) (B : Pt), s.WarmedH vm₁ ∧ Stand p l e R s m args below meth c B.U B.locs B.cells B.slots ∧ PostX ⟨T.setVm vm₁, locs, cells, slots⟩ argsL.toArray q B ∧
      Steps p.tables e below (T.setTop g) ((B.U.setTop { g with stack := rest }).pushFrame (.throwing q))) := by
  obtain ⟨mk, hnamed⟩ := Cond.code_named hcode
  obtain ⟨methM, cM, hmethM, -, -, -, -, -, -, hsigM⟩ := Cond.code_spec hnamed hcode
  have hstatic : methM.isStatic = true := Cond.static_spec hnamed hmethM hstat
  obtain ⟨kP, hkP, -⟩ := className_of_methodNamed hnamed
  have hinitP : kP.init = .initialized := Cond.initialized_spec (findClass_of_methodNamed hnamed) hkP hinit
  obtain ⟨vm₁, X₁, hstep₁⟩ := X.invokestatic hexec hown hlink hnamed hmethM hstatic hkP hinitP hy (g := g) hg (argsL := argsL) (rest := rest) (hlen _ hsigM) hstack hdg
  rcases hK m meth c ⟨T.setVm vm₁, locs, cells, slots⟩ { g with stack := rest } (.invokestatic index) mk argsL.toArray X₁ hg hsize hdg hW (X₁.named hnamed) (hpre vm₁ X₁.warmed) with ⟨v, B, X', hpost, hsteps⟩ | ⟨q, B, X', hpost, hsteps⟩
  · exact Or.inl ⟨v, vm₁, B, X₁.warmed, X', hpost, fun target h => hstep₁ _ fun acts => by rw [doInvoke_state]; exact hsteps.trans h⟩
  · exact Or.inr ⟨q, vm₁, B, X₁.warmed, X', hpost, hstep₁ _ fun acts => by rw [doInvoke_state]; exact hsteps⟩
end Calls
theorem vx_cls {s : State} {T : State} {vm₁ : Vm} {E : String} {k : ClassId} (hW : s.WarmedH vm₁) (h : (T.setVm vm₁).vm.findClass E = some k) : s.vm.findClass E = some k := by
  have h1 : vm₁.findClass E = some k := h
  rw [hW.alike.findClass] at h1
  exact h1
/-- the method's frame g, with q thrown over it -/
def vx_W (p : Program) (l : Launch) (e : Env) (R : Room) (s : State) (m : MethodId) (args : Array Value) (below : List Frame) (meth : Method) (c : Code) (H : Heap) (locs : List Loc) (cells slots : Nat) (Q : State → Prop) (g : JFrame) (q : Addr) : Prop :=
  ∀ T : State, T.heap = H → Stand p l e R s m args below meth c T locs cells slots → ∃ t, Steps p.tables e below ((T.setTop g).pushFrame (.throwing q)) t ∧ Q t
def vx_Run (p : Program) (l : Launch) (e : Env) (R : Room) (s : State) (m : MethodId) (args : Array Value) (below : List Frame) (meth : Method) (c : Code) (H : Heap) (locs : List Loc) (cells slots mc ms : Nat) (g : JFrame) (rest : List Value) (Qa : State → Outcome → State → Prop) (XC : String → State → State → Prop) (free : Addr → Prop) : Prop :=
  ∀ T : State, T.heap = H → Stand p l e R s m args below meth c T locs cells slots →
    (∃ (v : Option Value) (st₀ t T' : State) (L : List Loc), st₀.heap = H ∧ Stand p l e R s m args below meth c T' (locs ++ L) (cells + mc) (slots + ms) ∧ (∀ q ∈ L, free q.base) ∧ T'.heap = t.heap ∧ T'.vm = t.vm ∧ Qa st₀ (.returned v) t ∧
      Goes p e below T g T' { g with pc := g.pc + 3, stack := v.toList ++ rest }) ∨
    (∃ (q : Addr) (st₀ t T' : State) (L : List Loc) (E : String) (ce : Cell), st₀.heap = H ∧ Stand p l e R s m args below meth c T' (locs ++ L) (cells + mc) (slots + ms) ∧ (∀ z ∈ L, free z.base) ∧ T'.heap = t.heap ∧ T'.vm = t.vm ∧ XC E st₀ t ∧ t.heap[q]? = some ce ∧ ce.vm = .none ∧ s.vm.findClass E = some ce.cls ∧
      Steps p.tables e below (T.setTop g) ((T'.setTop { g with stack := rest }).pushFrame (.throwing q)))
def vx_X {S : Type} (px : S → Prop) (B : String → S → State → Prop) (A : Nat → Prop) : String → State → State → Prop := fun E st t => ∃ u : S, px u ∧ B E u t ∧ va_F A st t
section Runs
variable {p : Program} {l : Launch} {e : Env} {R : Room} {s : State} {m : MethodId} {args : Array Value} {below : List Frame} {meth : Method} {c : Code} {H : Heap} {locs : List Loc} {cells slots : Nat}
variable {y : MethodName} {bytes cc : ByteArray} {maxL nL mc ms n index : Nat} {ret : Option FieldType} {ws : List Cond} {rm : Room} {Pc : Array Value → State → Prop} {Qc : Array Value → State → Outcome → State → Prop} {XC : String → State → State → Prop} {free : Addr → Prop} {Ts : List Cond} {own C : String} {b : Addr} {As rest : List Value} {g : JFrame}
theorem vx_callBack (cb : CallB R s args own index y bytes maxL ret ws rm mc ms n) (hM : vx_Met l y ws rm Pc Qc XC mc ms free) (hbl : FrameBlind Pc) : vx_Back l R p e below s args y 3 8 (PreOf R mc ms Pc) (PostOf Qc mc ms free) (vx_Post XC mc ms free) := by
  obtain ⟨hrc, hrs, hfr, hlo, hws, hcw, -, hini, -⟩ := cb
  exact vx_back (bytes := bytes) (maxL := maxL) (ret := ret) hM hbl hrc hrs hfr hlo hws hcw (fun a' U hW => word_at hW (Or.inl (by first | rfl | simp [Cond.onTables, Cond.keeps, Cond.steady])) hini)
theorem vx_runV (S : CallFix p m c cc nL s args Ts own) (hM : vx_Met l y ws rm Pc Qc XC mc ms free) (cw : CallW R s args own C index y bytes maxL ret ws rm mc ms n) (hp : PreV s H C b Pc As)
    (hg : g.method = m) (hn : As.length = n) (hsize : g.locals.size = nL) (hstack : g.stack = As.reverse ++ .ref b :: rest) (hW : 2 * g.monitorRoom + (rest.map fun v => v.category).sum ≤ 8) (hdg : decode cc g.pc = .ok (.invokevirtual index, 3)) (hf : cells + mc ≤ R.cells ∧ slots + ms ≤ R.slots) :
    vx_Run p l e R s m args below meth c H locs cells slots mc ms g rest (Qc (Value.ref b :: As).toArray) XC free := by
  have hK : vx_Back l R p e below s args y 3 8 (PreOf R mc ms Pc) (PostOf Qc mc ms free) (vx_Post XC mc ms free) := vx_callBack cw.1 hM hp.1
  obtain ⟨⟨-, -, -, -, -, -, hcode, -, hy, hlen, hl⟩, hin, hse⟩ := cw
  obtain ⟨hx, hb, hml, ho, -⟩ := S
  obtain ⟨-, ⟨cellB, hcB, hoB, hclB⟩, hPc⟩ := hp
  intro T hT X
  rcases vx_callV X hx (C := C) (bytes := bytes) (maxL := maxL) (ret := ret) ho hl hin hse hcode hy hK (by rw [hT]; exact hcB) hoB hclB hg (hsize.trans hml.symm) (argsL := As) (rest := rest) (fun sig h => hn.trans (hlen sig h)) hstack hW (by rw [hb]; exact hdg)
    (fun vm₁ hW₁ => ⟨hf.1, hf.2, hPc (T.setVm vm₁) hT hW₁⟩) with ⟨v, vm₁, ⟨U', l2, c2, s2⟩, hW₁, X', ⟨g', mk, t, L, e1, e2, hq, h1, hL, h2, h3⟩, st⟩ | ⟨q, vm₁, ⟨U', l2, c2, s2⟩, hW₁, X', ⟨g', mk, t, L, E, ce, e1, e2, hq, hce, hcv, hcl, h1, hL, h2, h3⟩, st⟩
  · dsimp only [Pt.U, Pt.locs, Pt.cells, Pt.slots] at X' e1 e2 h1 h2 h3 st
    subst h1; subst h2; subst h3
    exact Or.inl ⟨v, (T.setVm vm₁).calling g' mk (Value.ref b :: As).toArray, t, U', L, hT, X', hL, e1, e2, hq, st⟩
  · dsimp only [Pt.U, Pt.locs, Pt.cells, Pt.slots] at X' e1 e2 h1 h2 h3 st hcl
    subst h1; subst h2; subst h3
    exact Or.inr ⟨q, (T.setVm vm₁).calling g' mk (Value.ref b :: As).toArray, t, U', L, E, ce, hT, X', hL, e1, e2, hq, hce, hcv, vx_cls hW₁ hcl, st⟩
theorem vx_runS (S : CallFix p m c cc nL s args Ts own) (hM : vx_Met l y ws rm Pc Qc XC mc ms free) (cw : CallB R s args own index y bytes maxL ret ws rm mc ms n ∧ (Cond.static y).before args s = true) (hp : PreS s H Pc As)
    (hg : g.method = m) (hn : As.length = n) (hsize : g.locals.size = nL) (hstack : g.stack = As.reverse ++ rest) (hW : 2 * g.monitorRoom + (rest.map fun v => v.category).sum ≤ 8) (hdg : decode cc g.pc = .ok (.invokestatic index, 3)) (hf : cells + mc ≤ R.cells ∧ slots + ms ≤ R.slots) :
    vx_Run p l e R s m args below meth c H locs cells slots mc ms g rest (Qc As.toArray) XC free := by
  have hK : vx_Back l R p e below s args y 3 8 (PreOf R mc ms Pc) (PostOf Qc mc ms free) (vx_Post XC mc ms free) := vx_callBack cw.1 hM hp.1
  obtain ⟨⟨-, -, -, -, -, -, hcode, hini, hy, hlen, hl⟩, hstt⟩ := cw
  obtain ⟨hx, hb, hml, ho, -⟩ := S
  intro T hT X
  rcases vx_callS X hx (bytes := bytes) (maxL := maxL) (ret := ret) ho hl hstt hini hcode hy hK hg (hsize.trans hml.symm) (argsL := As) (rest := rest) (fun sig h => hn.trans (hlen sig h)) hstack hW (by rw [hb]; exact hdg)
    (fun vm₁ hW₁ => ⟨hf.1, hf.2, hp.2 (T.setVm vm₁) hT hW₁⟩) with ⟨v, vm₁, ⟨U', l2, c2, s2⟩, hW₁, X', ⟨g', mk, t, L, e1, e2, hq, h1, hL, h2, h3⟩, st⟩ | ⟨q, vm₁, ⟨U', l2, c2, s2⟩, hW₁, X', ⟨g', mk, t, L, E, ce, e1, e2, hq, hce, hcv, hcl, h1, hL, h2, h3⟩, st⟩
  · dsimp only [Pt.U, Pt.locs, Pt.cells, Pt.slots] at X' e1 e2 h1 h2 h3 st
    subst h1; subst h2; subst h3
    exact Or.inl ⟨v, (T.setVm vm₁).calling g' mk As.toArray, t, U', L, hT, X', hL, e1, e2, hq, st⟩
  · dsimp only [Pt.U, Pt.locs, Pt.cells, Pt.slots] at X' e1 e2 h1 h2 h3 st hcl
    subst h1; subst h2; subst h3
    exact Or.inr ⟨q, (T.setVm vm₁).calling g' mk As.toArray, t, U', L, E, ce, hT, X', hL, e1, e2, hq, hce, hcv, vx_cls hW₁ hcl, st⟩
end Runs
section Rows
variable {p : Program} {l : Launch} {e : Env} {R : Room} {s : State} {m : MethodId} {args : Array Value} {below : List Frame} {meth : Method} {c : Code} {H : Heap} {locs : List Loc} {cells slots : Nat} {Q : State → Prop}
variable {mc ms : Nat} {free : Addr → Prop} {A0 A1 : Nat → Prop} {H0 : Heap} {a : Array Value} {pc : Nat} {ls : Array Slot} {st0 rest : List Value}
theorem vx_keep {st₀ t T' : State} {L : List Loc} (h0 : st₀.heap = H) (e1 : T'.heap = t.heap) (hS : va_S A0 H0 H locs) (hA : ∀ q, q < H.size → A1 q → A0 q) (hf : ∀ q, free q → A0 q) (hL : ∀ q ∈ L, free q.base) (hF : va_F A1 st₀ t) :
    H.size ≤ T'.heap.size ∧ (∀ q : Nat, q < H.size → ¬ A1 q → T'.heap[q]? = H[q]?) ∧ va_S A0 H0 T'.heap (locs ++ L) := by
  obtain ⟨hz, hk⟩ := hF
  rw [h0] at hz hk
  exact ⟨by rw [e1]; exact hz, fun q h1 h2 => by rw [e1]; exact hk q h1 h2,
    ⟨Nat.le_trans hS.1 (by rw [e1]; exact hz), fun q h1 h2 => by rw [e1, hk q (Nat.lt_of_lt_of_le h1 hS.1) (fun z => h2 (hA q (Nat.lt_of_lt_of_le h1 hS.1) z))]; exact hS.2.1 q h1 h2, fun q hq => by
      rcases List.mem_append.mp hq with h | h
      · exact hS.2.2 q h
      · exact hf _ (hL q h)⟩⟩
theorem vx_calli {S SX : Type} {post : Int32 → S → Prop} {px : SX → Prop} {B : S → State → Prop} {BX : String → SX → State → Prop} {AX : Nat → Prop} (hr : vx_Run p l e R s m args below meth c H locs cells slots mc ms (F0 m pc ls st0) rest (va_Qi post B A1 a) (vx_X px BX AX) free) (hS : va_S A0 H0 H locs) (hA : ∀ q, q < H.size → A1 q → A0 q) (hf : ∀ q, free q → A0 q) (hAX : ∀ q, q < H.size → AX q → A0 q)
    (kx : ∀ (E : String) (ce : Cell) (q9 : Addr) (u : SX) (t : State) (H1 : Heap) (locs1 : List Loc), t.heap = H1 → s.vm.Alike t.vm → px u → BX E u t → H.size ≤ H1.size → (∀ q : Nat, q < H.size → ¬ AX q → H1[q]? = H[q]?) → va_S A0 H0 H1 locs1 → H1[q9]? = some ce → ce.vm = .none → s.vm.findClass E = some ce.cls → vx_W p l e R s m args below meth c H1 locs1 (cells + mc) (slots + ms) Q (F0 m pc ls rest) q9)
    (kk : ∀ (r : Int32) (u : S) (t : State) (H1 : Heap) (locs1 : List Loc), t.heap = H1 → s.vm.Alike t.vm → post r u → B u t → H.size ≤ H1.size → (∀ q : Nat, q < H.size → ¬ A1 q → H1[q]? = H[q]?) → va_S A0 H0 H1 locs1 → W p l e R s m args below meth c H1 locs1 (cells + mc) (slots + ms) Q (F0 m (pc + 3) ls (.int r :: rest))) : W p l e R s m args below meth c H locs cells slots Q (F0 m pc ls st0) := by
  intro T hT X
  rcases hr T hT X with ⟨v, st₀, t, T', L, h0, X', hL, e1, e2, ⟨⟨r, u, hv, hp, hb⟩, hF⟩, st⟩ | ⟨q, st₀, t, T', L, E, ce, h0, X', hL, e1, e2, ⟨u, hp, hb, hF⟩, hce, hcv, hcl, st⟩
  · cases hv
    obtain ⟨k1, k2, k3⟩ := vx_keep h0 e1 hS hA hf hL hF
    obtain ⟨t2, a1, b1⟩ := kk r u t T'.heap (locs ++ L) e1.symm (by rw [← e2]; exact X'.warmed.alike) hp hb k1 k2 k3 T' rfl X'
    exact ⟨t2, st t2 a1, b1⟩
  · obtain ⟨k1, k2, k3⟩ := vx_keep h0 e1 hS hAX hf hL hF
    obtain ⟨t2, a1, b1⟩ := kx E ce q u t T'.heap (locs ++ L) e1.symm (by rw [← e2]; exact X'.warmed.alike) hp hb k1 k2 k3 (by rw [e1]; exact hce) hcv hcl T' rfl X'
    exact ⟨t2, st.trans a1, b1⟩
theorem vx_calll {S SX : Type} {post : Int64 → S → Prop} {px : SX → Prop} {B : S → State → Prop} {BX : String → SX → State → Prop} {AX : Nat → Prop} (hr : vx_Run p l e R s m args below meth c H locs cells slots mc ms (F0 m pc ls st0) rest (va_Ql post B A1 a) (vx_X px BX AX) free) (hS : va_S A0 H0 H locs) (hA : ∀ q, q < H.size → A1 q → A0 q) (hf : ∀ q, free q → A0 q) (hAX : ∀ q, q < H.size → AX q → A0 q)
    (kx : ∀ (E : String) (ce : Cell) (q9 : Addr) (u : SX) (t : State) (H1 : Heap) (locs1 : List Loc), t.heap = H1 → s.vm.Alike t.vm → px u → BX E u t → H.size ≤ H1.size → (∀ q : Nat, q < H.size → ¬ AX q → H1[q]? = H[q]?) → va_S A0 H0 H1 locs1 → H1[q9]? = some ce → ce.vm = .none → s.vm.findClass E = some ce.cls → vx_W p l e R s m args below meth c H1 locs1 (cells + mc) (slots + ms) Q (F0 m pc ls rest) q9)
    (kk : ∀ (r : Int64) (u : S) (t : State) (H1 : Heap) (locs1 : List Loc), t.heap = H1 → s.vm.Alike t.vm → post r u → B u t → H.size ≤ H1.size → (∀ q : Nat, q < H.size → ¬ A1 q → H1[q]? = H[q]?) → va_S A0 H0 H1 locs1 → W p l e R s m args below meth c H1 locs1 (cells + mc) (slots + ms) Q (F0 m (pc + 3) ls (.long r :: rest))) : W p l e R s m args below meth c H locs cells slots Q (F0 m pc ls st0) := by
  intro T hT X
  rcases hr T hT X with ⟨v, st₀, t, T', L, h0, X', hL, e1, e2, ⟨⟨r, u, hv, hp, hb⟩, hF⟩, st⟩ | ⟨q, st₀, t, T', L, E, ce, h0, X', hL, e1, e2, ⟨u, hp, hb, hF⟩, hce, hcv, hcl, st⟩
  · cases hv
    obtain ⟨k1, k2, k3⟩ := vx_keep h0 e1 hS hA hf hL hF
    obtain ⟨t2, a1, b1⟩ := kk r u t T'.heap (locs ++ L) e1.symm (by rw [← e2]; exact X'.warmed.alike) hp hb k1 k2 k3 T' rfl X'
    exact ⟨t2, st t2 a1, b1⟩
  · obtain ⟨k1, k2, k3⟩ := vx_keep h0 e1 hS hAX hf hL hF
    obtain ⟨t2, a1, b1⟩ := kx E ce q u t T'.heap (locs ++ L) e1.symm (by rw [← e2]; exact X'.warmed.alike) hp hb k1 k2 k3 (by rw [e1]; exact hce) hcv hcl T' rfl X'
    exact ⟨t2, st.trans a1, b1⟩
theorem vx_callf {S SX : Type} {post : UInt32 → S → Prop} {px : SX → Prop} {B : S → State → Prop} {BX : String → SX → State → Prop} {AX : Nat → Prop} (hr : vx_Run p l e R s m args below meth c H locs cells slots mc ms (F0 m pc ls st0) rest (va_Qf post B A1 a) (vx_X px BX AX) free) (hS : va_S A0 H0 H locs) (hA : ∀ q, q < H.size → A1 q → A0 q) (hf : ∀ q, free q → A0 q) (hAX : ∀ q, q < H.size → AX q → A0 q)
    (kx : ∀ (E : String) (ce : Cell) (q9 : Addr) (u : SX) (t : State) (H1 : Heap) (locs1 : List Loc), t.heap = H1 → s.vm.Alike t.vm → px u → BX E u t → H.size ≤ H1.size → (∀ q : Nat, q < H.size → ¬ AX q → H1[q]? = H[q]?) → va_S A0 H0 H1 locs1 → H1[q9]? = some ce → ce.vm = .none → s.vm.findClass E = some ce.cls → vx_W p l e R s m args below meth c H1 locs1 (cells + mc) (slots + ms) Q (F0 m pc ls rest) q9)
    (kk : ∀ (r : UInt32) (u : S) (t : State) (H1 : Heap) (locs1 : List Loc), t.heap = H1 → s.vm.Alike t.vm → post r u → B u t → H.size ≤ H1.size → (∀ q : Nat, q < H.size → ¬ A1 q → H1[q]? = H[q]?) → va_S A0 H0 H1 locs1 → W p l e R s m args below meth c H1 locs1 (cells + mc) (slots + ms) Q (F0 m (pc + 3) ls (.float r :: rest))) : W p l e R s m args below meth c H locs cells slots Q (F0 m pc ls st0) := by
  intro T hT X
  rcases hr T hT X with ⟨v, st₀, t, T', L, h0, X', hL, e1, e2, ⟨⟨r, u, hv, hp, hb⟩, hF⟩, st⟩ | ⟨q, st₀, t, T', L, E, ce, h0, X', hL, e1, e2, ⟨u, hp, hb, hF⟩, hce, hcv, hcl, st⟩
  · cases hv
    obtain ⟨k1, k2, k3⟩ := vx_keep h0 e1 hS hA hf hL hF
    obtain ⟨t2, a1, b1⟩ := kk r u t T'.heap (locs ++ L) e1.symm (by rw [← e2]; exact X'.warmed.alike) hp hb k1 k2 k3 T' rfl X'
    exact ⟨t2, st t2 a1, b1⟩
  · obtain ⟨k1, k2, k3⟩ := vx_keep h0 e1 hS hAX hf hL hF
    obtain ⟨t2, a1, b1⟩ := kx E ce q u t T'.heap (locs ++ L) e1.symm (by rw [← e2]; exact X'.warmed.alike) hp hb k1 k2 k3 (by rw [e1]; exact hce) hcv hcl T' rfl X'
    exact ⟨t2, st.trans a1, b1⟩
theorem vx_calld {S SX : Type} {post : UInt64 → S → Prop} {px : SX → Prop} {B : S → State → Prop} {BX : String → SX → State → Prop} {AX : Nat → Prop} (hr : vx_Run p l e R s m args below meth c H locs cells slots mc ms (F0 m pc ls st0) rest (va_Qd post B A1 a) (vx_X px BX AX) free) (hS : va_S A0 H0 H locs) (hA : ∀ q, q < H.size → A1 q → A0 q) (hf : ∀ q, free q → A0 q) (hAX : ∀ q, q < H.size → AX q → A0 q)
    (kx : ∀ (E : String) (ce : Cell) (q9 : Addr) (u : SX) (t : State) (H1 : Heap) (locs1 : List Loc), t.heap = H1 → s.vm.Alike t.vm → px u → BX E u t → H.size ≤ H1.size → (∀ q : Nat, q < H.size → ¬ AX q → H1[q]? = H[q]?) → va_S A0 H0 H1 locs1 → H1[q9]? = some ce → ce.vm = .none → s.vm.findClass E = some ce.cls → vx_W p l e R s m args below meth c H1 locs1 (cells + mc) (slots + ms) Q (F0 m pc ls rest) q9)
    (kk : ∀ (r : UInt64) (u : S) (t : State) (H1 : Heap) (locs1 : List Loc), t.heap = H1 → s.vm.Alike t.vm → post r u → B u t → H.size ≤ H1.size → (∀ q : Nat, q < H.size → ¬ A1 q → H1[q]? = H[q]?) → va_S A0 H0 H1 locs1 → W p l e R s m args below meth c H1 locs1 (cells + mc) (slots + ms) Q (F0 m (pc + 3) ls (.double r :: rest))) : W p l e R s m args below meth c H locs cells slots Q (F0 m pc ls st0) := by
  intro T hT X
  rcases hr T hT X with ⟨v, st₀, t, T', L, h0, X', hL, e1, e2, ⟨⟨r, u, hv, hp, hb⟩, hF⟩, st⟩ | ⟨q, st₀, t, T', L, E, ce, h0, X', hL, e1, e2, ⟨u, hp, hb, hF⟩, hce, hcv, hcl, st⟩
  · cases hv
    obtain ⟨k1, k2, k3⟩ := vx_keep h0 e1 hS hA hf hL hF
    obtain ⟨t2, a1, b1⟩ := kk r u t T'.heap (locs ++ L) e1.symm (by rw [← e2]; exact X'.warmed.alike) hp hb k1 k2 k3 T' rfl X'
    exact ⟨t2, st t2 a1, b1⟩
  · obtain ⟨k1, k2, k3⟩ := vx_keep h0 e1 hS hAX hf hL hF
    obtain ⟨t2, a1, b1⟩ := kx E ce q u t T'.heap (locs ++ L) e1.symm (by rw [← e2]; exact X'.warmed.alike) hp hb k1 k2 k3 (by rw [e1]; exact hce) hcv hcl T' rfl X'
    exact ⟨t2, st.trans a1, b1⟩
theorem vx_callv {S SX : Type} {post : S → Prop} {px : SX → Prop} {B : S → State → Prop} {BX : String → SX → State → Prop} {AX : Nat → Prop} (hr : vx_Run p l e R s m args below meth c H locs cells slots mc ms (F0 m pc ls st0) rest (va_Qv post B A1 a) (vx_X px BX AX) free) (hS : va_S A0 H0 H locs) (hA : ∀ q, q < H.size → A1 q → A0 q) (hf : ∀ q, free q → A0 q) (hAX : ∀ q, q < H.size → AX q → A0 q)
    (kx : ∀ (E : String) (ce : Cell) (q9 : Addr) (u : SX) (t : State) (H1 : Heap) (locs1 : List Loc), t.heap = H1 → s.vm.Alike t.vm → px u → BX E u t → H.size ≤ H1.size → (∀ q : Nat, q < H.size → ¬ AX q → H1[q]? = H[q]?) → va_S A0 H0 H1 locs1 → H1[q9]? = some ce → ce.vm = .none → s.vm.findClass E = some ce.cls → vx_W p l e R s m args below meth c H1 locs1 (cells + mc) (slots + ms) Q (F0 m pc ls rest) q9)
    (kk : ∀ (u : S) (t : State) (H1 : Heap) (locs1 : List Loc), t.heap = H1 → s.vm.Alike t.vm → post u → B u t → H.size ≤ H1.size → (∀ q : Nat, q < H.size → ¬ A1 q → H1[q]? = H[q]?) → va_S A0 H0 H1 locs1 → W p l e R s m args below meth c H1 locs1 (cells + mc) (slots + ms) Q (F0 m (pc + 3) ls (rest))) : W p l e R s m args below meth c H locs cells slots Q (F0 m pc ls st0) := by
  intro T hT X
  rcases hr T hT X with ⟨v, st₀, t, T', L, h0, X', hL, e1, e2, ⟨⟨u, hv, hp, hb⟩, hF⟩, st⟩ | ⟨q, st₀, t, T', L, E, ce, h0, X', hL, e1, e2, ⟨u, hp, hb, hF⟩, hce, hcv, hcl, st⟩
  · cases hv
    obtain ⟨k1, k2, k3⟩ := vx_keep h0 e1 hS hA hf hL hF
    obtain ⟨t2, a1, b1⟩ := kk u t T'.heap (locs ++ L) e1.symm (by rw [← e2]; exact X'.warmed.alike) hp hb k1 k2 k3 T' rfl X'
    exact ⟨t2, st t2 a1, b1⟩
  · obtain ⟨k1, k2, k3⟩ := vx_keep h0 e1 hS hAX hf hL hF
    obtain ⟨t2, a1, b1⟩ := kx E ce q u t T'.heap (locs ++ L) e1.symm (by rw [← e2]; exact X'.warmed.alike) hp hb k1 k2 k3 (by rw [e1]; exact hce) hcv hcl T' rfl X'
    exact ⟨t2, st.trans a1, b1⟩
/-- caught by the row x of this method's table; the rows ahead don't take it -/
theorem vx_catch {own name : String} {E : String} {ce : Cell} {q : Addr} (hown : s.vm.findClass own = some m.cls) (pre : List ExceptionTableEntry) (x : ExceptionTableEntry) (suf : List ExceptionTableEntry) (hsplit : c.exceptionTable.toList = pre ++ x :: suf)
    (hpass : ∀ z ∈ pre, covers z pc = false ∨ (z.catchType ≠ 0 ∧ ∃ nm : String, (Cond.classLink own z.catchType nm).before args s = true ∧ va_Nc E nm s)) (hx : covers x pc = true) (h0 : x.catchType ≠ 0)
    (hlink : (Cond.classLink own x.catchType name).before args s = true) (hcast : (Cond.castable E name).before args s = true) (hcell : H[q]? = some ce) (hv : ce.vm = .none) (hcl : s.vm.findClass E = some ce.cls)
    (kk : W p l e R s m args below meth c H locs cells slots Q (F0 m x.handlerPc ls [.ref q])) : vx_W p l e R s m args below meth c H locs cells slots Q (F0 m pc ls rest) q := by
  intro T hT X
  have hpl : e.platform.magicAccessors = ({} : Platform).magicAccessors := by rw [X.admits.platform]
  obtain ⟨c3, c4, hc3, hc4, hasg⟩ := Cond.castable_spec hcast
  cases Option.some.inj (hc3.symm.trans hcl)
  obtain ⟨c5, hc5, hcl5⟩ := Cond.classLink_spec hown hlink e.platform hpl
  cases Option.some.inj (hc4.symm.trans hc5)
  obtain ⟨vm', X', st⟩ := X.thenCaughtThrough q (g := F0 m pc ls rest) rfl (Steps.refl _) (by rw [hT]; exact hcell) (by rw [hv]; rfl) (by obtain ⟨k9, h9, -⟩ := Vm.findClass_spec hcl; exact ⟨k9, h9⟩) pre x suf hsplit
    (fun z hz => by
      rcases hpass z hz with h | ⟨hz0, nm, hl1, hn1⟩
      · exact Or.inl h
      · obtain ⟨c6, hc6, hcl6⟩ := Cond.classLink_spec hown hl1 e.platform hpl
        obtain ⟨a8, b8, h1, h2, h3⟩ := hn1
        cases Option.some.inj (h1.symm.trans hcl)
        cases Option.some.inj (h2.symm.trans hc6)
        exact Or.inr ⟨hz0, _, hcl6, h3⟩) hx (Or.inr ⟨h0, c4, hcl5, hasg⟩)
  obtain ⟨t, a1, b1⟩ := kk (T.setVm vm') hT X'
  exact ⟨t, st.trans a1, b1⟩
end Rows
section Ends
variable {p : Program} {l : Launch} {e : Env} {R : Room} {s : State} {m : MethodId} {args : Array Value} {below : List Frame} {meth : Method} {c : Code} {H : Heap} {locs : List Loc} {cells slots : Nat} {Q : State → Prop}
variable {mc ms : Nat} {free : Addr → Prop} {A0 A1 : Nat → Prop} {H0 : Heap} {a : Array Value} {ls : Array Slot} {st0 rest : List Value}
variable {Qc : Array Value → State → Outcome → State → Prop} {XC : String → State → State → Prop}
/-- what a body that may throw owes at its end -/
def vx_MQ (below : List Frame) (Qc : Array Value → State → Outcome → State → Prop) (XC : String → State → State → Prop) (a : Array Value) (s : State) (mc ms : Nat) (free : Addr → Prop) : State → Prop := fun t =>
  ∃ o, t.status = .running ∧ Ended t below o ∧ vx_Q Qc XC mc ms free a s o t
theorem vx_ret {g : JFrame} {mc ms : Nat} (k : W p l e R s m args below meth c H locs cells slots (MQ below Qc args s mc ms free) g) : W p l e R s m args below meth c H locs cells slots (vx_MQ below Qc XC args s mc ms free) g := by
  intro T hT X
  obtain ⟨t, a1, o, b1, b2, b3, b4⟩ := k T hT X
  exact ⟨t, a1, o, b1, b2, Or.inl ⟨b3, b4⟩⟩
/-- not caught here: it goes on to the caller -/
theorem vx_widen {g : JFrame} {q : Addr} {k n : Nat} (h1 : cells ≤ k) (h2 : slots ≤ n) (kk : vx_W p l e R s m args below meth c H locs k n Q g q) : vx_W p l e R s m args below meth c H locs cells slots Q g q := fun T hT X => kk T hT (stand_widen X h1 h2)
theorem vx_out {pc : Nat} {E : String} {ce : Cell} {q : Addr} {mc ms : Nat} (hout : ∀ x ∈ c.exceptionTable.toList, covers x pc = false) (hlocks : meth.locks = false) (hcell : H[q]? = some ce) (hv : ce.vm = .none) (hcl : s.vm.findClass E = some ce.cls)
    (hx : ∀ t : State, t.heap = H → s.vm.Alike t.vm → XC E s t) (hf : ∀ z ∈ locs, free z.base) (hc : cells ≤ mc) (hs : slots ≤ ms) :
    vx_W p l e R s m args below meth c H locs cells slots (vx_MQ below Qc XC args s mc ms free) (F0 m pc ls rest) q := by
  intro T hT X
  obtain ⟨st1, hrun, hend, hW, hsm⟩ := X.leaveThrown q (g := F0 m pc ls rest) rfl rfl rfl hout hlocks
  have hcell9 : (T.setFrames (.throwing q :: below)).heap[q]? = some ce := by
    show T.heap[q]? = some ce
    rw [hT]; exact hcell
  exact ⟨_, st1, .threw q, hrun, hend, Or.inr ⟨q, rfl, E, ce, locs, hx _ hT hW.alike, hcell9, hv, hcl, hW, hsm.mono hc hs, hf⟩⟩
theorem vx_frame {U : State} {k n : Nat} (h : s.sameButNew ({ U with vm := s.vm } : State) locs k n) : s.heap.size ≤ U.heap.size ∧ ∀ q : Nat, q < s.heap.size → (∀ z ∈ locs, z.base ≠ q) → U.heap[q]? = s.heap[q]? := by
  obtain ⟨-, h2, -, -, -, h6⟩ := h
  refine ⟨h2, fun q hq hz => ?_⟩
  obtain ⟨c9, e1, e2, e3, e4⟩ := h6 q _ (Array.getElem?_eq_getElem hq)
  have hs : c9.slots = (s.heap[q]).slots := Array.ext_getElem? fun i => e4 i fun hm => hz _ hm rfl
  have h9 : c9 = s.heap[q] := by
    rw [hs] at e2
    exact e2
  have e5 : U.heap[q]? = some c9 := e1
  rw [e5, h9, Array.getElem?_eq_getElem hq]
/-- the words of a throw but the four that speak of the heap -/
def vx_no (w : Cond) : Bool := decide (w ≠ .isRef (.static Bundle.tN "UNASSIGNED_STACK" Bundle.steD)) && decide (w ≠ .isRef (.static Bundle.tN "SUPPRESSED_SENTINEL" Bundle.listD)) && decide (w ≠ .laysStatic Bundle.tN "UNASSIGNED_STACK" Bundle.steD) && decide (w ≠ .laysStatic Bundle.tN "SUPPRESSED_SENTINEL" Bundle.listD)
def vx_at0 (own : String) (ic : Nat) (X : String) (names : List String) : List Cond := (Bundle.ownAtoms0 own ic X names).filter vx_no
def vx_atS (own : String) (ic : Nat) (X : String) (names : List String) : List Cond := (Bundle.ownAtoms own ic X names).filter vx_no
/-- a word that the tables alone decide, or a good one -/
def vx_ot (w : Cond) : Bool := w.onTables || goodWord w
theorem vx_ot_at {args a' : Array Value} {s U : State} {w : Cond} (hW : s.WarmedH U.vm) (hvm : s.vm = U.vm) (hg : vx_ot w = true) (h : w.before args s = true) : w.before a' U = true := by
  simp only [vx_ot, Bool.or_eq_true] at hg
  rcases hg with hg | hg
  · exact va_tabs hg hvm h
  · exact word_at hW (good_of_word hg) h
/-- a list's words: the good ones out of the method's own list, the others by premises of their own -/
theorem vx_hat {args : Array Value} {s : State} {L B : List Cond} (h1 : ∀ w ∈ L.filter goodWord, w.before args s = true) (h2 : ∀ w ∈ L.filter (fun w => !goodWord w), w ∈ B) (h3 : ∀ w ∈ B, w.before args s = true) : ∀ w ∈ L, w.before args s = true := by
  intro w hw
  by_cases g : goodWord w = true
  · exact h1 w (List.mem_filter.mpr ⟨hw, g⟩)
  · refine h3 w (h2 w (List.mem_filter.mpr ⟨hw, ?_⟩))
    show (!goodWord w) = true
    cases hgw : goodWord w
    · rfl
    · exact absurd hgw g
theorem vx_c {args : Array Value} {s : State} {w : Cond} {B : List Cond} (h : w.before args s = true) (t : ∀ w ∈ B, w.before args s = true) : ∀ w' ∈ w :: B, w'.before args s = true := fun w' h' => (List.mem_cons.mp h').elim (fun e => by rw [e]; exact h) (t w')
theorem vx_n {args : Array Value} {s : State} : ∀ w ∈ ([] : List Cond), w.before args s = true := fun _ h => nomatch h
theorem vx_own {args : Array Value} {s : State} {L : List Cond} (h1 : ∀ w ∈ L.filter vx_no, w.before args s = true)
    (hU : (Cond.isRef (.static Bundle.tN "UNASSIGNED_STACK" Bundle.steD)).before args s = true) (hN : (Cond.isRef (.static Bundle.tN "SUPPRESSED_SENTINEL" Bundle.listD)).before args s = true)
    (lU : (Cond.laysStatic Bundle.tN "UNASSIGNED_STACK" Bundle.steD).before args s = true) (lN : (Cond.laysStatic Bundle.tN "SUPPRESSED_SENTINEL" Bundle.listD).before args s = true) : ∀ w ∈ L, w.before args s = true := by
  intro w hw
  by_cases e1 : w = .isRef (.static Bundle.tN "UNASSIGNED_STACK" Bundle.steD)
  · rw [e1]; exact hU
  · by_cases e2 : w = .isRef (.static Bundle.tN "SUPPRESSED_SENTINEL" Bundle.listD)
    · rw [e2]; exact hN
    · by_cases e3 : w = .laysStatic Bundle.tN "UNASSIGNED_STACK" Bundle.steD
      · rw [e3]; exact lU
      · by_cases e4 : w = .laysStatic Bundle.tN "SUPPRESSED_SENTINEL" Bundle.listD
        · rw [e4]; exact lN
        · exact h1 w (List.mem_filter.mpr ⟨hw, by unfold vx_no; rw [decide_eq_true e1, decide_eq_true e2, decide_eq_true e3, decide_eq_true e4]; rfl⟩)
/-- where a static field lies, its class's statics cell in H -/
def vx_L (C n d : String) (A : Nat → Prop) (U : State) (H : Heap) : Prop := ∃ (c : ClassId) (k : Class) (i : Nat) (f : Field) (a : Nat) (cell : Cell), U.vm.findClass C = some c ∧ U.fieldFound? C n d = some (c, k, i, f) ∧ f.isStatic = true ∧ k.statics = some a ∧ H[a]? = some cell ∧ cell.vm.isStatics = true ∧ cell.cls = c ∧ f.slot < cell.slots.size ∧ k.staticTypes[f.slot]? = some f.type ∧ ¬ A a
theorem vx_L.moved {C n d : String} {A : Nat → Prop} {u U : State} {H : Heap} (hvm : u.vm.Alike U.vm) (h : vx_L C n d A u H) : vx_L C n d A U H := by
  obtain ⟨c, k, i, f, a, cell, h1, h2, h3, h4, h5, h6, h7, h8, h9, h10⟩ := h
  obtain ⟨k', hi', he⟩ := State.fieldFound?_setVm hvm h2
  exact ⟨c, k', i, f, a, cell, by rw [hvm.findClass]; exact h1, hi', h3, by rw [he]; exact h4, h5, h6, h7, h8, by rw [he]; exact h9, h10⟩
theorem vx_L.kept {C n d : String} {A : Nat → Prop} {U : State} {H H1 : Heap} (h : vx_L C n d A U H) (hq : ∀ a : Nat, a < H.size → ¬ A a → H1[a]? = H[a]?) : vx_L C n d A U H1 := by
  obtain ⟨c, k, i, f, a, cell, h1, h2, h3, h4, h5, h6, h7, h8, h9, h10⟩ := h
  exact ⟨c, k, i, f, a, cell, h1, h2, h3, h4, by rw [hq a (Array.getElem?_eq_some_iff.mp h5).1 h10]; exact h5, h6, h7, h8, h9, h10⟩
theorem vx_L.narrow {C n d : String} {A B : Nat → Prop} {U : State} {H : Heap} (h : vx_L C n d A U H) (hAB : ∀ q, B q → A q) : vx_L C n d B U H := by
  obtain ⟨c, k, i, f, a, cell, h1, h2, h3, h4, h5, h6, h7, h8, h9, h10⟩ := h
  exact ⟨c, k, i, f, a, cell, h1, h2, h3, h4, h5, h6, h7, h8, h9, fun z => h10 (hAB _ z)⟩
theorem vx_L.word {C n d : String} {A : Nat → Prop} {s : State} {args : Array Value} (h : vx_L C n d A s s.heap) : (Cond.laysStatic C n d).before args s = true := by
  obtain ⟨c, k, i, f, a, cell, h1, h2, h3, h4, h5, h6, h7, h8, h9, -⟩ := h
  show (Cond.laysStatic C n d).holds args s none s [] = true
  exact Cond.laysStatic_of h1 h2 h3 h4 h5 h6 h7 h8 h9
/-- .. and what it holds: null or some reference -/
def vx_Zq (C n d : String) (A : Nat → Prop) (U : State) (H : Heap) : Prop := va_Zq C n d A U H ∧ vx_L C n d A U H
theorem vx_Zq.moved {C n d : String} {A : Nat → Prop} {u U : State} {H : Heap} (hvm : u.vm.Alike U.vm) (h : vx_Zq C n d A u H) : vx_Zq C n d A U H := ⟨va_Zq.moved hvm h.1, vx_L.moved hvm h.2⟩
theorem vx_Zq.kept {C n d : String} {A : Nat → Prop} {U : State} {H H1 : Heap} (h : vx_Zq C n d A U H) (hq : ∀ a : Nat, a < H.size → ¬ A a → H1[a]? = H[a]?) : vx_Zq C n d A U H1 := ⟨va_Zq.kept h.1 hq, vx_L.kept h.2 hq⟩
theorem vx_Zq.narrow {C n d : String} {A B : Nat → Prop} {U : State} {H : Heap} (h : vx_Zq C n d A U H) (hAB : ∀ q, B q → A q) : vx_Zq C n d B U H := ⟨va_Zq.narrow h.1 hAB, vx_L.narrow h.2 hAB⟩
theorem vx_Zqof {args : Array Value} {s : State} {C n d : String} {A : Nat → Prop} (hl : (Cond.laysStatic C n d).before args s = true) (hini : (Cond.initialized C).before args s = true) (h : (Cond.isRef (.static C n d)).before args s = true) (hA : ∀ a : Nat, a < s.heap.size → ¬ A a) : vx_Zq C n d A s s.heap := by
  refine ⟨va_Zqof hl hini h hA, ?_⟩
  obtain ⟨c, k, i, f, a, cell, h1, h2, h3, h4, h5, h6, h7, h8, h9⟩ := Cond.laysStatic_spec hl
  exact ⟨c, k, i, f, a, cell, h1, h2, h3, h4, h5, h6, h7, h8, h9, hA a (Array.getElem?_eq_some_iff.mp h5).1⟩
theorem vx_isRef {C n d : String} {v : Value} {A : Nat → Prop} {s : State} {args : Array Value} (h : va_Z C n d v A s s.heap) (hv : v.isRef = true) : (Cond.isRef (.static C n d)).before args s = true := by
  obtain ⟨cf, kf, fi, f, a, cell, h1, h2, h3, h4, h5, h6, h7, -⟩ := h
  have he : (Term.static C n d).eval args s none [] s = some v := by
    simp [Term.eval, State.fieldNamed?, h1, h2, h4, h5, h6, h7]
  simp only [Cond.before, Cond.holds, Cond.value, he]
  cases v <;> simp_all [Value.isRef]
theorem vx_isRefq {C n d : String} {A : Nat → Prop} {s : State} {args : Array Value} (h : va_Zq C n d A s s.heap) : (Cond.isRef (.static C n d)).before args s = true := by
  rcases h with h | ⟨t, h⟩
  · exact vx_isRef h rfl
  · exact vx_isRef h rfl
/-- the same frame, seen from here: as if the method were called anew in this heap -/
theorem vx_rebase {T : State} (X : Stand p l e R s m args below meth c T locs cells slots) {R' : Room} (hf : R'.frames ≤ R.frames) (hl : R'.locals ≤ R.locals) (hc : cells + R'.cells ≤ R.cells) (hs : slots + R'.slots ≤ R.slots) :
    Stand p l e R' ((T.setVm s.vm).setFrames (.invoking m args :: below)) m args below meth c T [] 0 0 := by
  have htop : (T.setVm s.vm).topJava?.isSome := X.here.top
  have hF : ((T.setVm s.vm).setFrames (.invoking m args :: below)).frames = .invoking m args :: below := State.frames_setFrames _ (State.cur_lt_of_top htop)
  obtain ⟨g₀, hg0⟩ := Option.isSome_iff_exists.mp htop
  obtain ⟨r, hr⟩ := State.topJava?_eq_some.mp hg0
  have hl9 : e.platform.stackLimits (T.setVm s.vm).me = e.platform.stackLimits s.me := X.limits
  have hb9 : (T.setVm s.vm).me.stackBytes = s.me.stackBytes := X.bytes
  refine ⟨X.admits, X.cas, X.clock, hF, ?_, X.hears, X.method, X.code, X.here, X.tail, X.warmed, ?_, ?_, ?_⟩
  · have h := X.room
    have hU : ((T.setVm s.vm).setFrames (.invoking m args :: below)).localsInUse = s.localsInUse := by
      rw [State.localsInUse_invoking hF (meth := meth) (c := c) X.method X.code, State.localsInUse_invoking X.frames X.method X.code]
    simp only [State.hasRoom, Bool.and_eq_true, decide_eq_true_eq] at h ⊢
    obtain ⟨⟨⟨⟨h1, h2, h3, h4, h5, h6⟩, h7⟩, h8⟩, h9⟩ := h
    rw [X.frames, List.length_cons] at h2 h3
    have q1 := X.heapSize
    have q2 := X.used
    simp only [hF, hU, List.length_cons, State.stackLimits_setFrames, State.stackBytes_setFrames, hl9, hb9]
    refine ⟨⟨⟨⟨by omega, by omega, by omega, by omega, by omega, h6⟩, ?_⟩, ?_⟩, X.book⟩
    · show T.heap.size + R'.cells ≤ e.platform.maxCells
      omega
    · show T.slotsUsed + R'.slots ≤ e.platform.maxSlots
      omega
  · rw [State.stackLimits_setFrames]; rfl
  · rw [State.stackBytes_setFrames]; rfl
  · refine ⟨?_, Nat.le_refl _, Nat.le_refl _, ?_, ?_, fun a c9 h9 => ⟨c9, h9, rfl, rfl, fun _ _ => rfl⟩⟩
    · obtain ⟨t, ht, -⟩ := State.frames_cons hr
      show T.setVm s.vm = { ((T.setVm s.vm).setFrames (.invoking m args :: below)).setFrames (T.setVm s.vm).frames with heap := T.heap, slotsUsed := T.slotsUsed }
      rw [State.setFrames_setFrames, State.setFrames_self ht]
      rfl
    · show T.slotsUsed = T.slotsUsed + ((T.heap.toList.drop T.heap.size).map (·.slots.size)).sum
      rw [List.drop_eq_nil_of_le (Nat.le_of_eq Array.length_toList)]
      rfl
    · show ((T.heap.toList.drop T.heap.size).map (·.slots.size)).sum ≤ 0
      rw [List.drop_eq_nil_of_le (Nat.le_of_eq Array.length_toList)]
      exact Nat.le_refl _
/-- 'throw new E()': new; dup; invokespecial; athrow -/
theorem vx_throw0 {cc : ByteArray} {pc : Nat} (hexec : p.tables.exec = Jvm.exec) (hb : c.code = cc) (hl : l.stackTraces = false) {own cls : String} {names : List String} {ik ic mc ms : Nat} {A : Nat → Prop}
    (hown : s.vm.findClass own = some m.cls) (hcls : Bundle.fit cls = true) (hnames : ∀ n ∈ names, Bundle.fit n = true)
    (hk : (Cond.classLink own ik cls).before args s = true) (hini : (Cond.initialized cls).before args s = true) (hat : ∀ w ∈ vx_at0 own ic cls names, w.before args s = true)
    (hgood : ∀ w ∈ Cond.classLink own ik cls :: Cond.initialized cls :: vx_at0 own ic cls names, vx_ot w = true)
    (hU : vx_Zq Bundle.tN "UNASSIGNED_STACK" Bundle.steD A s s.heap) (hN : vx_Zq Bundle.tN "SUPPRESSED_SENTINEL" Bundle.listD A s s.heap) (hS : va_S A s.heap H locs) (hsize : ls.size = c.maxLocals)
    (d0 : decode cc pc = .ok (.new ik, 3)) (d3 : decode cc (pc + 3) = .ok (.dup, 1)) (d4 : decode cc (pc + 4) = .ok (.invokespecial ic, 3)) (d7 : decode cc (pc + 7) = .ok (.athrow, 1))
    (hout : ∀ x ∈ c.exceptionTable.toList, covers x (pc + 7) = false)
    (hRframes : names.length + 3 < R.frames) (hRlocals : (rest.map fun v => v.category).sum + (13 * (names.length + 1) + 42) ≤ R.locals) (hRcells : cells + 1 ≤ R.cells) (hRslots : slots + 6 ≤ R.slots) (hlocks : meth.locks = false)
    (hx : ∀ t : State, s.vm.Alike t.vm → H.size ≤ t.heap.size → (∀ q : Nat, q < H.size → t.heap[q]? = H[q]?) → XC cls s t)
    (hf : ∀ z ∈ locs, free z.base) (hc : cells + 1 ≤ mc) (hs : slots + 6 ≤ ms) :
    W p l e R s m args below meth c H locs cells slots (vx_MQ below Qc XC args s mc ms free) (F0 m pc ls rest) := by
  intro T hT X
  have htr : e.platform.stackTraces = false := (show e.platform.stackTraces = l.stackTraces by rw [X.admits.platform]).trans hl
  have Y := vx_rebase X (R' := { frames := R.frames, locals := R.locals, cells := 1, slots := 6 }) (Nat.le_refl _) (Nat.le_refl _) hRcells hRslots
  obtain ⟨s', hA⟩ : ∃ z, z = (T.setVm s.vm).setFrames (.invoking m args :: below) := ⟨_, rfl⟩
  rw [← hA] at Y
  have hvm : s'.vm = s.vm := by rw [hA]; rfl
  have hhp : s'.heap = H := by rw [hA]; exact hT
  have hW0 : s.WarmedH s'.vm := by rw [hvm]; exact State.WarmedH.refl s
  have hat' : ∀ w ∈ vx_at0 own ic cls names, w.before args s' = true := fun w hw => vx_ot_at hW0 hvm.symm (hgood w (List.mem_cons_of_mem _ (List.mem_cons_of_mem _ hw))) (hat w hw)
  have hk' : (Cond.classLink own ik cls).before args s' = true := vx_ot_at hW0 hvm.symm (hgood _ List.mem_cons_self) hk
  have hini' : (Cond.initialized cls).before args s' = true := vx_ot_at hW0 hvm.symm (hgood _ (List.mem_cons_of_mem _ List.mem_cons_self)) hini
  have hU' : vx_Zq Bundle.tN "UNASSIGNED_STACK" Bundle.steD A s' s'.heap := by rw [hhp]; exact vx_Zq.moved hW0.alike (hU.kept hS.2.1)
  have hN' : vx_Zq Bundle.tN "SUPPRESSED_SENTINEL" Bundle.listD A s' s'.heap := by rw [hhp]; exact vx_Zq.moved hW0.alike (hN.kept hS.2.1)
  have h : ∀ w ∈ Bundle.ownAtoms0 own ic cls names, w.before args s' = true := vx_own hat' (vx_isRefq hU'.1) (vx_isRefq hN'.1) hU'.2.word hN'.2.word
  have hown' : s'.vm.findClass own = some m.cls := by rw [hvm]; exact hown
  have hins : (Cond.instantiable cls 6).before args s' = true := h _ (by simp [Bundle.ownAtoms0])
  obtain ⟨vm₁, cX, kX, hfX, hkX, -, -, X₁, st1⟩ := Y.newCold hexec (own := own) (C := cls) (index := ik) (n := 6) hown' hk' hins hini'
    (g := F0 m pc ls rest) rfl (by rw [hb]; exact d0) (Nat.le_refl _) (Nat.le_refl _)
  generalize hT1 : (T.setVm vm₁).pushCell { cls := cX, slots := kX.instanceTypes.map defaultValue, vm := .none } = T1 at X₁ st1
  have hcat : (Value.ref T.heap.size).category = 1 := rfl
  have hcellA : T1.heap[T.heap.size]? = some (freshCell cX kX) := by rw [← hT1]; exact State.heap_pushCell_size _ _
  have d3' : decode c.code (pc + 3) = .ok (.dup, 1) := by rw [hb]; exact d3
  obtain ⟨U, hsteps, hrun, hend, hW, hsame, ce, hce, hO⟩ := X₁.ctorThrow0 hexec htr (own := own) (cls := cls) (names := names) (ic := ic) hown' hcls hnames h (fun x hx => nomatch hx) hfX hkX hcellA (by rw [hhp, hT]; exact Nat.le_refl _)
    (g := { method := m, pc := pc + 4, locals := ls, stack := .ref T.heap.size :: .ref T.heap.size :: rest, locked := none }) rfl hsize rfl rfl (rest := rest) rfl
    (by rw [hb]; exact d4) (by rw [hb]; exact d7) hout hRframes (by simp only [List.map_cons, List.sum_cons, hcat]; omega) hlocks
  obtain ⟨f1, f2⟩ := vx_frame hsame
  rw [hhp] at f1 f2
  have hWs : s.WarmedH U.vm := State.WarmedH.trans hW0 hW
  have hcl : s.vm.findClass cls = some ce.cls := by
    have h9 := hO.cls
    rw [hvm] at h9
    exact h9
  have hall : s.sameButNew ({ U with vm := s.vm } : State) locs mc ms := by
    subst hA
    obtain ⟨e1, e2⟩ := hsame
    rw [State.setFrames_setFrames] at e1
    have h2 : (T.setVm s.vm).sameButNew ({ U with vm := s.vm } : State) [] (0 + 1) (0 + 6) := ⟨e1, e2⟩
    have h3 := X.same.trans h2
    rw [List.append_nil] at h3
    exact h3.mono hc hs
  refine ⟨U, ?_, .threw T.heap.size, hrun, hend, Or.inr ⟨T.heap.size, rfl, cls, ce, locs, hx U hWs.alike f1 (fun q hq => f2 q hq (fun z hz => nomatch hz)), hce, hO.vm, hcl, hWs, hall, hf⟩⟩
  refine st1 _ ?_
  show Steps p.tables e below (T1.setTop { method := m, pc := pc + 3, locals := ls, stack := .ref T.heap.size :: rest, locked := none }) _
  jvm_step X₁.here [X₁.here.top, hexec, d3', Value.category]
  exact hsteps
/-- 'throw new E("text")': new; dup; ldc; invokespecial; athrow -/
theorem vx_throwS {cc : ByteArray} {pc : Nat} (hexec : p.tables.exec = Jvm.exec) (hb : c.code = cc) (hl : l.stackTraces = false) {own cls text : String} {names : List String} {ik is ic mc ms sa : Nat} {A : Nat → Prop}
    (hown : s.vm.findClass own = some m.cls) (hcls : Bundle.fit cls = true) (hnames : ∀ n ∈ names, Bundle.fit n = true)
    (hk : (Cond.classLink own ik cls).before args s = true) (hini : (Cond.initialized cls).before args s = true) (hstr : vk_R own is text sa s) (hat : ∀ w ∈ vx_atS own ic cls names, w.before args s = true)
    (hgood : ∀ w ∈ Cond.classLink own ik cls :: Cond.initialized cls :: vx_atS own ic cls names, vx_ot w = true)
    (hU : vx_Zq Bundle.tN "UNASSIGNED_STACK" Bundle.steD A s s.heap) (hN : vx_Zq Bundle.tN "SUPPRESSED_SENTINEL" Bundle.listD A s s.heap) (hS : va_S A s.heap H locs) (hsize : ls.size = c.maxLocals)
    (d0 : decode cc pc = .ok (.new ik, 3)) (d3 : decode cc (pc + 3) = .ok (.dup, 1)) (d4 : decode cc (pc + 4) = .ok (.ldc is, 2)) (d6 : decode cc (pc + 6) = .ok (.invokespecial ic, 3)) (d9 : decode cc (pc + 9) = .ok (.athrow, 1))
    (hout : ∀ x ∈ c.exceptionTable.toList, covers x (pc + 9) = false)
    (hRframes : names.length + 3 < R.frames) (hRlocals : (rest.map fun v => v.category).sum + (13 * (names.length + 1) + 43) ≤ R.locals) (hRcells : cells + 1 ≤ R.cells) (hRslots : slots + 6 ≤ R.slots) (hlocks : meth.locks = false)
    (hx : ∀ t : State, s.vm.Alike t.vm → H.size ≤ t.heap.size → (∀ q : Nat, q < H.size → t.heap[q]? = H[q]?) → XC cls s t)
    (hf : ∀ z ∈ locs, free z.base) (hc : cells + 1 ≤ mc) (hs : slots + 6 ≤ ms) :
    W p l e R s m args below meth c H locs cells slots (vx_MQ below Qc XC args s mc ms free) (F0 m pc ls rest) := by
  intro T hT X
  have htr : e.platform.stackTraces = false := (show e.platform.stackTraces = l.stackTraces by rw [X.admits.platform]).trans hl
  have Y := vx_rebase X (R' := { frames := R.frames, locals := R.locals, cells := 1, slots := 6 }) (Nat.le_refl _) (Nat.le_refl _) hRcells hRslots
  obtain ⟨s', hA⟩ : ∃ z, z = (T.setVm s.vm).setFrames (.invoking m args :: below) := ⟨_, rfl⟩
  rw [← hA] at Y
  have hvm : s'.vm = s.vm := by rw [hA]; rfl
  have hhp : s'.heap = H := by rw [hA]; exact hT
  have hW0 : s.WarmedH s'.vm := by rw [hvm]; exact State.WarmedH.refl s
  have hat' : ∀ w ∈ vx_atS own ic cls names, w.before args s' = true := fun w hw => vx_ot_at hW0 hvm.symm (hgood w (List.mem_cons_of_mem _ (List.mem_cons_of_mem _ hw))) (hat w hw)
  have hk' : (Cond.classLink own ik cls).before args s' = true := vx_ot_at hW0 hvm.symm (hgood _ List.mem_cons_self) hk
  have hini' : (Cond.initialized cls).before args s' = true := vx_ot_at hW0 hvm.symm (hgood _ (List.mem_cons_of_mem _ List.mem_cons_self)) hini
  have hU' : vx_Zq Bundle.tN "UNASSIGNED_STACK" Bundle.steD A s' s'.heap := by rw [hhp]; exact vx_Zq.moved hW0.alike (hU.kept hS.2.1)
  have hN' : vx_Zq Bundle.tN "SUPPRESSED_SENTINEL" Bundle.listD A s' s'.heap := by rw [hhp]; exact vx_Zq.moved hW0.alike (hN.kept hS.2.1)
  have h : ∀ w ∈ Bundle.ownAtoms own ic cls names, w.before args s' = true := vx_own hat' (vx_isRefq hU'.1) (vx_isRefq hN'.1) hU'.2.word hN'.2.word
  have hown' : s'.vm.findClass own = some m.cls := by rw [hvm]; exact hown
  have hins : (Cond.instantiable cls 6).before args s' = true := h _ (by simp [Bundle.ownAtoms])
  obtain ⟨vm₁, cX, kX, hfX, hkX, -, -, X₁, st1⟩ := Y.newCold hexec (own := own) (C := cls) (index := ik) (n := 6) hown' hk' hins hini'
    (g := F0 m pc ls rest) rfl (by rw [hb]; exact d0) (Nat.le_refl _) (Nat.le_refl _)
  generalize hT1 : (T.setVm vm₁).pushCell { cls := cX, slots := kX.instanceTypes.map defaultValue, vm := .none } = T1 at X₁ st1
  have hcat : (Value.ref T.heap.size).category = 1 := rfl
  have hcellA : T1.heap[T.heap.size]? = some (freshCell cX kX) := by rw [← hT1]; exact State.heap_pushCell_size _ _
  have d3' : decode c.code (pc + 3) = .ok (.dup, 1) := by rw [hb]; exact d3
  have d4' : decode c.code (pc + 4) = .ok (.ldc is, 2) := by rw [hb]; exact d4
  have hstr' : vk_R own is text sa s' := vk_R.warm hW0 hstr
  obtain ⟨U, hsteps, hrun, hend, hW, hsame, ce, hce, hO⟩ := X₁.ctorThrowS hexec htr (own := own) (cls := cls) (names := names) (ic := ic) hown' hcls hnames h (fun x hx => nomatch hx) hfX hkX hcellA (by rw [hhp, hT]; exact Nat.le_refl _) (msg := .ref sa) rfl
    (g := { method := m, pc := pc + 6, locals := ls, stack := .ref sa :: .ref T.heap.size :: .ref T.heap.size :: rest, locked := none }) rfl hsize rfl rfl (rest := rest) rfl
    (by rw [hb]; exact d6) (by rw [hb]; exact d9) hout hRframes (by simp only [List.map_cons, List.sum_cons, hcat]; omega) hlocks
  obtain ⟨f1, f2⟩ := vx_frame hsame
  rw [hhp] at f1 f2
  have hWs : s.WarmedH U.vm := State.WarmedH.trans hW0 hW
  have hcl : s.vm.findClass cls = some ce.cls := by
    have h9 := hO.cls
    rw [hvm] at h9
    exact h9
  have hall : s.sameButNew ({ U with vm := s.vm } : State) locs mc ms := by
    subst hA
    obtain ⟨e1, e2⟩ := hsame
    rw [State.setFrames_setFrames] at e1
    have h2 : (T.setVm s.vm).sameButNew ({ U with vm := s.vm } : State) [] (0 + 1) (0 + 6) := ⟨e1, e2⟩
    have h3 := X.same.trans h2
    rw [List.append_nil] at h3
    exact h3.mono hc hs
  refine ⟨U, ?_, .threw T.heap.size, hrun, hend, Or.inr ⟨T.heap.size, rfl, cls, ce, locs, hx U hWs.alike f1 (fun q hq => f2 q hq (fun z hz => nomatch hz)), hce, hO.vm, hcl, hWs, hall, hf⟩⟩
  refine st1 _ ?_
  show Steps p.tables e below (T1.setTop { method := m, pc := pc + 3, locals := ls, stack := .ref T.heap.size :: rest, locked := none }) _
  jvm_step X₁.here [X₁.here.top, hexec, d3', Value.category]
  exact X₁.ldcString hexec (own := own) (text := text) (index := is) (a := sa) hown' hstr'.1 hstr'.2
    (g := { method := m, pc := pc + 4, locals := ls, stack := .ref T.heap.size :: .ref T.heap.size :: rest, locked := none }) rfl d4' _ hsteps
/-- 'throw new E("text")', the text by a wide index -/
theorem vx_throwSW {cc : ByteArray} {pc : Nat} (hexec : p.tables.exec = Jvm.exec) (hb : c.code = cc) (hl : l.stackTraces = false) {own cls text : String} {names : List String} {ik is ic mc ms sa : Nat} {A : Nat → Prop}
    (hown : s.vm.findClass own = some m.cls) (hcls : Bundle.fit cls = true) (hnames : ∀ n ∈ names, Bundle.fit n = true)
    (hk : (Cond.classLink own ik cls).before args s = true) (hini : (Cond.initialized cls).before args s = true) (hstr : vk_R own is text sa s) (hat : ∀ w ∈ vx_atS own ic cls names, w.before args s = true)
    (hgood : ∀ w ∈ Cond.classLink own ik cls :: Cond.initialized cls :: vx_atS own ic cls names, vx_ot w = true)
    (hU : vx_Zq Bundle.tN "UNASSIGNED_STACK" Bundle.steD A s s.heap) (hN : vx_Zq Bundle.tN "SUPPRESSED_SENTINEL" Bundle.listD A s s.heap) (hS : va_S A s.heap H locs) (hsize : ls.size = c.maxLocals)
    (d0 : decode cc pc = .ok (.new ik, 3)) (d3 : decode cc (pc + 3) = .ok (.dup, 1)) (d4 : decode cc (pc + 4) = .ok (.ldc_w is, 3)) (d7 : decode cc (pc + 7) = .ok (.invokespecial ic, 3)) (d10 : decode cc (pc + 10) = .ok (.athrow, 1))
    (hout : ∀ x ∈ c.exceptionTable.toList, covers x (pc + 10) = false)
    (hRframes : names.length + 3 < R.frames) (hRlocals : (rest.map fun v => v.category).sum + (13 * (names.length + 1) + 43) ≤ R.locals) (hRcells : cells + 1 ≤ R.cells) (hRslots : slots + 6 ≤ R.slots) (hlocks : meth.locks = false)
    (hx : ∀ t : State, s.vm.Alike t.vm → H.size ≤ t.heap.size → (∀ q : Nat, q < H.size → t.heap[q]? = H[q]?) → XC cls s t)
    (hf : ∀ z ∈ locs, free z.base) (hc : cells + 1 ≤ mc) (hs : slots + 6 ≤ ms) :
    W p l e R s m args below meth c H locs cells slots (vx_MQ below Qc XC args s mc ms free) (F0 m pc ls rest) := by
  intro T hT X
  have htr : e.platform.stackTraces = false := (show e.platform.stackTraces = l.stackTraces by rw [X.admits.platform]).trans hl
  have Y := vx_rebase X (R' := { frames := R.frames, locals := R.locals, cells := 1, slots := 6 }) (Nat.le_refl _) (Nat.le_refl _) hRcells hRslots
  obtain ⟨s', hA⟩ : ∃ z, z = (T.setVm s.vm).setFrames (.invoking m args :: below) := ⟨_, rfl⟩
  rw [← hA] at Y
  have hvm : s'.vm = s.vm := by rw [hA]; rfl
  have hhp : s'.heap = H := by rw [hA]; exact hT
  have hW0 : s.WarmedH s'.vm := by rw [hvm]; exact State.WarmedH.refl s
  have hat' : ∀ w ∈ vx_atS own ic cls names, w.before args s' = true := fun w hw => vx_ot_at hW0 hvm.symm (hgood w (List.mem_cons_of_mem _ (List.mem_cons_of_mem _ hw))) (hat w hw)
  have hk' : (Cond.classLink own ik cls).before args s' = true := vx_ot_at hW0 hvm.symm (hgood _ List.mem_cons_self) hk
  have hini' : (Cond.initialized cls).before args s' = true := vx_ot_at hW0 hvm.symm (hgood _ (List.mem_cons_of_mem _ List.mem_cons_self)) hini
  have hU' : vx_Zq Bundle.tN "UNASSIGNED_STACK" Bundle.steD A s' s'.heap := by rw [hhp]; exact vx_Zq.moved hW0.alike (hU.kept hS.2.1)
  have hN' : vx_Zq Bundle.tN "SUPPRESSED_SENTINEL" Bundle.listD A s' s'.heap := by rw [hhp]; exact vx_Zq.moved hW0.alike (hN.kept hS.2.1)
  have h : ∀ w ∈ Bundle.ownAtoms own ic cls names, w.before args s' = true := vx_own hat' (vx_isRefq hU'.1) (vx_isRefq hN'.1) hU'.2.word hN'.2.word
  have hown' : s'.vm.findClass own = some m.cls := by rw [hvm]; exact hown
  have hins : (Cond.instantiable cls 6).before args s' = true := h _ (by simp [Bundle.ownAtoms])
  obtain ⟨vm₁, cX, kX, hfX, hkX, -, -, X₁, st1⟩ := Y.newCold hexec (own := own) (C := cls) (index := ik) (n := 6) hown' hk' hins hini'
    (g := F0 m pc ls rest) rfl (by rw [hb]; exact d0) (Nat.le_refl _) (Nat.le_refl _)
  generalize hT1 : (T.setVm vm₁).pushCell { cls := cX, slots := kX.instanceTypes.map defaultValue, vm := .none } = T1 at X₁ st1
  have hcat : (Value.ref T.heap.size).category = 1 := rfl
  have hcellA : T1.heap[T.heap.size]? = some (freshCell cX kX) := by rw [← hT1]; exact State.heap_pushCell_size _ _
  have d3' : decode c.code (pc + 3) = .ok (.dup, 1) := by rw [hb]; exact d3
  have d4' : decode c.code (pc + 4) = .ok (.ldc_w is, 3) := by rw [hb]; exact d4
  have hstr' : vk_R own is text sa s' := vk_R.warm hW0 hstr
  obtain ⟨U, hsteps, hrun, hend, hW, hsame, ce, hce, hO⟩ := X₁.ctorThrowS hexec htr (own := own) (cls := cls) (names := names) (ic := ic) hown' hcls hnames h (fun x hx => nomatch hx) hfX hkX hcellA (by rw [hhp, hT]; exact Nat.le_refl _) (msg := .ref sa) rfl
    (g := { method := m, pc := pc + 7, locals := ls, stack := .ref sa :: .ref T.heap.size :: .ref T.heap.size :: rest, locked := none }) rfl hsize rfl rfl (rest := rest) rfl
    (by rw [hb]; exact d7) (by rw [hb]; exact d10) hout hRframes (by simp only [List.map_cons, List.sum_cons, hcat]; omega) hlocks
  obtain ⟨f1, f2⟩ := vx_frame hsame
  rw [hhp] at f1 f2
  have hWs : s.WarmedH U.vm := State.WarmedH.trans hW0 hW
  have hcl : s.vm.findClass cls = some ce.cls := by
    have h9 := hO.cls
    rw [hvm] at h9
    exact h9
  have hall : s.sameButNew ({ U with vm := s.vm } : State) locs mc ms := by
    subst hA
    obtain ⟨e1, e2⟩ := hsame
    rw [State.setFrames_setFrames] at e1
    have h2 : (T.setVm s.vm).sameButNew ({ U with vm := s.vm } : State) [] (0 + 1) (0 + 6) := ⟨e1, e2⟩
    have h3 := X.same.trans h2
    rw [List.append_nil] at h3
    exact h3.mono hc hs
  refine ⟨U, ?_, .threw T.heap.size, hrun, hend, Or.inr ⟨T.heap.size, rfl, cls, ce, locs, hx U hWs.alike f1 (fun q hq => f2 q hq (fun z hz => nomatch hz)), hce, hO.vm, hcl, hWs, hall, hf⟩⟩
  refine st1 _ ?_
  show Steps p.tables e below (T1.setTop { method := m, pc := pc + 3, locals := ls, stack := .ref T.heap.size :: rest, locked := none }) _
  jvm_step X₁.here [X₁.here.top, hexec, d3', Value.category]
  exact X₁.ldcStringW hexec (own := own) (text := text) (index := is) (a := sa) hown' hstr'.1 hstr'.2
    (g := { method := m, pc := pc + 4, locals := ls, stack := .ref T.heap.size :: .ref T.heap.size :: rest, locked := none }) rfl d4' _ hsteps
end Ends
section Bodies
variable {l : Launch}
theorem vx_ofW {y : MethodName} {ws ws' : List Cond} {rm : Room} {Pc : Array Value → State → Prop} {Qc : Array Value → State → Outcome → State → Prop} {XC : String → State → State → Prop} {mc ms : Nat} {free : Addr → Prop} {cc : ByteArray} {maxL : Nat} {ret : Option FieldType}
    (hy : plainName y.cls = true) (hw : ws = Cond.code y cc maxL ret :: ws')
    (body : ∀ p e s m args below meth c s₁, BodyLoose p l y (headSpec ws rm) cc maxL ret e s m args below meth c s₁ → c.maxLocals = maxL → (∀ x ∈ c.exceptionTable.toList, False) → Pc args s →
      W p l e (headSpec ws rm).room s m args below meth c s.heap [] 0 0 (vx_MQ below Qc XC args s mc ms free) (entryFrame m args maxL)) : vx_Met l y ws rm Pc Qc XC mc ms free := by
  refine MetFree.of_bodyS (code := cc) (maxLocals := maxL) (ret := ret) hy ?_ ?_
  · intro args s m h hn
    obtain ⟨meth, c, h1, h2, h3, h4, h5, h6, -, -⟩ := Cond.code_spec hn (atoms_spec (ws := ws) h _ (by rw [hw]; exact List.mem_cons_self))
    exact ⟨meth, c, h1, h2, h3, h4, h5, h6⟩
  · intro p e s m args below meth c s₁ B hml hP _
    have hh0 : s₁.heap = s.heap := by rw [B.state]; rfl
    have ht : ∀ x ∈ c.exceptionTable.toList, False := by
      obtain ⟨meth9, c9, h1, h2, -, -, -, -, h7, -⟩ := Cond.code_spec B.named (atoms_spec (ws := ws) B.pre _ (by rw [hw]; exact List.mem_cons_self))
      cases Option.some.inj (h1.symm.trans B.method)
      cases Option.some.inj (h2.symm.trans (Stand.of_body B).code)
      intro x hx
      rw [Array.isEmpty_iff.mp h7] at hx
      cases hx
    obtain ⟨t, a1, o, b1, b2, b3⟩ := body p e s m args below meth c s₁ B hml ht hP s₁ hh0 (Stand.of_body B)
    exact ⟨t, o, a1, b1, b2, b3⟩
/-- the table of a body with handlers -/
theorem vx_table {p : Program} {x y : MethodName} {S : Spec} {cc bytes : ByteArray} {maxL maxL' : Nat} {ret ret' : Option FieldType} {e : Env} {s s₁ : State} {m : MethodId} {args : Array Value} {below : List Frame} {meth : Method} {c : Code} {hh : List (Nat × Nat × Nat × Nat)}
    (B : BodyLoose p l y S cc maxL ret e s m args below meth c s₁) (h : (Cond.codeWith y bytes maxL' ret' hh).before args s = true) : c.exceptionTable.toList = tableOf hh := by
  obtain ⟨m9, meth9, c9, hn9, h1, h2, -, -, h6, -⟩ := Cond.codeWith_spec h
  cases Option.some.inj (hn9.symm.trans B.named)
  cases Option.some.inj (h1.symm.trans B.method)
  cases Option.some.inj (h2.symm.trans (Stand.of_body B).code)
  rw [← h6, table_eq]
end Bodies
end VXA
/-! ===== END ===== -/
/-! ===== BEGIN a static call of a method with an exception table ===== -/
section VXS
variable {p : Program} {l : Launch} {e : Env} {R : Room} {s : State} {m : MethodId} {args : Array Value} {below : List Frame} {meth : Method} {c : Code} {T : State} {H : Heap} {locs : List Loc} {cells slots : Nat}
abbrev vx_CSW (R : Room) (s : State) (args : Array Value) (own : String) (index : Nat) (y : MethodName) (bytes : ByteArray) (maxL : Nat) (ret : Option FieldType) (hh : List (Nat × Nat × Nat × Nat)) (ws : List Cond) (rm : Room) (mc ms n : Nat) : Prop :=
  (rm.cells = mc ∧ rm.slots = ms ∧ rm.frames + 1 ≤ R.frames ∧ 8 + (maxL + 11) + rm.locals ≤ R.locals ∧ (∀ w ∈ ws, ∀ (a' : Array Value) (U : State), s.WarmedH U.vm → w.before a' U = true) ∧ Cond.codeWith y bytes maxL ret hh ∈ ws) ∧
  (Cond.codeWith y bytes maxL ret hh).before args s = true ∧ (Cond.initialized y.cls).before args s = true ∧ (y.cls ≠ "java/lang/invoke/MethodHandle" ∧ y.cls ≠ "java/lang/invoke/VarHandle") ∧
  (∀ sig, parseMethodDescriptor y.desc = some sig → n = sig.parameters.length) ∧ (Cond.methodLink own index y).before args s = true ∧ (Cond.static y).before args s = true
theorem vx_cwSW {own : String} {index maxL mc ms : Nat} {y : MethodName} {bytes : ByteArray} {ret : Option FieldType} {hh : List (Nat × Nat × Nat × Nat)} {Ts ws ws' : List Cond} {rm : Room} (n : Nat) (ht : ∀ w ∈ Ts, w.before args s = true) (hT : GoodIn Ts (va_wsS own index y ws)) (hw : ws = Cond.codeWith y bytes maxL ret hh :: ws') (hrc : rm.cells = mc) (hrs : rm.slots = ms)
    (hd : y.cls ≠ "java/lang/invoke/MethodHandle" ∧ y.cls ≠ "java/lang/invoke/VarHandle" ∧ (parseMethodDescriptor y.desc).map (fun d => d.parameters.length) = some n) (hR : rm.frames + 1 ≤ R.frames ∧ 8 + (maxL + 11) + rm.locals ≤ R.locals) :
    vx_CSW R s args own index y bytes maxL ret hh ws rm mc ms n := by
  have ok : ∀ w ∈ va_wsS own index y ws, w.before args s = true := fun w h => ht w (hT w h).1
  have hG : GoodIn Ts ws := fun w h => hT w (by unfold va_wsS; exact List.mem_append_right _ h)
  have hc : Cond.codeWith y bytes maxL ret hh ∈ ws := by rw [hw]; exact List.mem_cons_self
  refine ⟨⟨hrc, hrs, hR.1, hR.2, pay_in ht hG, hc⟩, ht _ (hG _ hc).1, ok _ (by simp [va_wsS]), ⟨hd.1, hd.2.1⟩, fun sig h => ?_, ok _ (by simp [va_wsS]), ok _ (by simp [va_wsS])⟩
  have h2 := hd.2.2
  rw [h] at h2
  exact (Option.some.inj h2).symm
theorem vx_callSW (X : Stand p l e R s m args below meth c T locs cells slots) (hexec : p.tables.exec = Jvm.exec) {own : String} {index : Nat} {y : MethodName} {bytes : ByteArray} {maxL : Nat} {ret : Option FieldType} {hh : List (Nat × Nat × Nat × Nat)}
    (hown : s.vm.findClass own = some m.cls) (hlink : (Cond.methodLink own index y).before args s = true) (hstat : (Cond.static y).before args s = true) (hinit : (Cond.initialized y.cls).before args s = true)
    (hcode : (Cond.codeWith y bytes maxL ret hh).before args s = true) (hy : y.cls ≠ "java/lang/invoke/MethodHandle" ∧ y.cls ≠ "java/lang/invoke/VarHandle")
    {W9 : Nat} {Pre : Pt → Array Value → Prop} {Post : Pt → Array Value → Option Value → Pt → Prop} (hK : Back l R p e below s args y 3 W9 Pre Post)
    {g : JFrame} (hg : g.method = m) (hsize : g.locals.size = c.maxLocals) {argsL rest : List Value} (hlen : ∀ sig, parseMethodDescriptor y.desc = some sig → argsL.length = sig.parameters.length)
    (hstack : g.stack = argsL.reverse ++ rest) (hW : 2 * g.monitorRoom + (rest.map fun v => v.category).sum ≤ W9) (hdg : decode c.code g.pc = .ok (.invokestatic index, 3))
    (hpre : ∀ vm₁, s.WarmedH vm₁ → Pre ⟨T.setVm vm₁, locs, cells, slots⟩ argsL.toArray) :
    ∃ (v : Option Value) (vm₁ : Vm) (B : Pt), s.WarmedH vm₁ ∧ Stand p l e R s m args below meth c B.U B.locs B.cells B.slots ∧ Post ⟨T.setVm vm₁, locs, cells, slots⟩ argsL.toArray v B ∧
      ∀ target, Steps p.tables e below (B.U.setTop { g with pc := g.pc + 3, stack := v.toList ++ rest }) target → Steps p.tables e below (T.setTop g) target := by
  obtain ⟨mk, methM, cM, hnamed, hmethM, -, -, -, -, -, -, hsigM⟩ := Cond.codeWith_spec hcode
  have hstatic : methM.isStatic = true := Cond.static_spec hnamed hmethM hstat
  obtain ⟨kP, hkP, -⟩ := className_of_methodNamed hnamed
  have hinitP : kP.init = .initialized := Cond.initialized_spec (findClass_of_methodNamed hnamed) hkP hinit
  obtain ⟨vm₁, X₁, hstep₁⟩ := X.invokestatic hexec hown hlink hnamed hmethM hstatic hkP hinitP hy (g := g) hg (argsL := argsL) (rest := rest) (hlen _ hsigM) hstack hdg
  obtain ⟨v, B, X', hpost, hsteps⟩ := hK m meth c ⟨T.setVm vm₁, locs, cells, slots⟩ { g with stack := rest } (.invokestatic index) mk argsL.toArray X₁ hg hsize hdg hW (X₁.named hnamed) (hpre vm₁ X₁.warmed)
  exact ⟨v, vm₁, B, X₁.warmed, X', hpost, fun target h => hstep₁ _ fun acts => by rw [doInvoke_state]; exact hsteps.trans h⟩
theorem vx_runSW {y : MethodName} {bytes cc : ByteArray} {maxL nL mc ms n index : Nat} {ret : Option FieldType} {hh : List (Nat × Nat × Nat × Nat)} {ws : List Cond} {rm : Room} {Pc : Array Value → State → Prop} {Qc : Array Value → State → Outcome → State → Prop} {free : Addr → Prop} {Ts : List Cond} {own : String} {As rest : List Value} {g : JFrame}
    (S : CallFix p m c cc nL s args Ts own) (hM : Met l y ws rm Pc Qc mc ms free) (cw : vx_CSW R s args own index y bytes maxL ret hh ws rm mc ms n) (hp : PreS s H Pc As)
    (hg : g.method = m) (hn : As.length = n) (hsize : g.locals.size = nL) (hstack : g.stack = As.reverse ++ rest) (hW : 2 * g.monitorRoom + (rest.map fun v => v.category).sum ≤ 8) (hdg : decode cc g.pc = .ok (.invokestatic index, 3)) (hf : cells + mc ≤ R.cells ∧ slots + ms ≤ R.slots) :
    va_Run p l e R s m args below meth c H locs cells slots mc ms g rest (Qc As.toArray) (free) := by
  obtain ⟨⟨hrc, hrs, hfr, hlo, hws, hcw⟩, hcode, hini, hy, hlen, hl, hstt⟩ := cw
  have hK : Back l R p e below s args y 3 8 (PreOf R mc ms Pc) (PostOf Qc mc ms free) := va_backW (hh := hh) (bytes := bytes) (maxL := maxL) (ret := ret) hM hp.1 hrc hrs hfr hlo hws hcw (fun a' U hW => word_at hW (Or.inl (by first | rfl | simp [Cond.onTables, Cond.keeps, Cond.steady])) hini)
  obtain ⟨hx, hb, hml, ho, -⟩ := S
  intro T hT X
  obtain ⟨v, vm₁, ⟨U', l2, c2, s2⟩, hW₁, X', ⟨g', mk, t, L, e1, e2, hq, h1, hL, h2, h3⟩, st⟩ := vx_callSW X hx (hh := hh) (bytes := bytes) (maxL := maxL) (ret := ret) ho hl hstt hini hcode hy hK hg (hsize.trans hml.symm) (argsL := As) (rest := rest) (fun sig h => hn.trans (hlen sig h)) hstack hW (by rw [hb]; exact hdg)
    (fun vm₁ hW₁ => ⟨hf.1, hf.2, hp.2 (T.setVm vm₁) hT hW₁⟩)
  dsimp only [Pt.U, Pt.locs, Pt.cells, Pt.slots] at X' e1 e2 h1 h2 h3 st
  subst h1; subst h2; subst h3
  exact ⟨v, (T.setVm vm₁).calling g' mk As.toArray, t, U', L, hT, X', hL, e1, e2, hq, st⟩
/-- not caught here, past rows that name other classes: it goes on to the caller -/
theorem vx_outP {p : Program} {l : Launch} {e : Env} {R : Room} {s : State} {m : MethodId} {args : Array Value} {below : List Frame} {meth : Method} {c : Code} {H : Heap} {locs : List Loc} {cells slots : Nat} {free : Addr → Prop} {ls : Array Slot} {rest : List Value} {Qc : Array Value → State → Outcome → State → Prop} {XC : String → State → State → Prop}
    {pc : Nat} {own E : String} {ce : Cell} {q : Addr} {mc ms : Nat} (hown : s.vm.findClass own = some m.cls) (hlocks : meth.locks = false)
    (hpass : ∀ z ∈ c.exceptionTable.toList, covers z pc = false ∨ (z.catchType ≠ 0 ∧ ∃ nm : String, (Cond.classLink own z.catchType nm).before args s = true ∧ va_Nc E nm s)) (hcell : H[q]? = some ce) (hv : ce.vm = .none) (hcl : s.vm.findClass E = some ce.cls)
    (hx : ∀ t : State, t.heap = H → s.vm.Alike t.vm → XC E s t) (hf : ∀ z ∈ locs, free z.base) (hc : cells ≤ mc) (hs : slots ≤ ms) :
    vx_W p l e R s m args below meth c H locs cells slots (vx_MQ below Qc XC args s mc ms free) (F0 m pc ls rest) q := by
  intro T hT X
  have hpl : e.platform.magicAccessors = ({} : Platform).magicAccessors := by rw [X.admits.platform]
  obtain ⟨vm', hW', X', st⟩ := X.outThrough hlocks q (g := F0 m pc ls rest) rfl rfl rfl (cell := ce) (by rw [hT]; exact hcell) (by rw [hv]; rfl)
    (by obtain ⟨k9, h9, -⟩ := Vm.findClass_spec hcl; exact ⟨k9, h9⟩) (fun z hz => by
      rcases hpass z hz with h | ⟨hz0, nm, hl1, hn1⟩
      · exact Or.inl h
      · obtain ⟨c6, hc6, hcl6⟩ := Cond.classLink_spec hown hl1 e.platform hpl
        obtain ⟨a8, b8, h1, h2, h3⟩ := hn1
        cases Option.some.inj (h1.symm.trans hcl)
        cases Option.some.inj (h2.symm.trans hc6)
        exact Or.inr ⟨hz0, _, hcl6, h3⟩)
  obtain ⟨g₀, hfr⟩ := X'.frames_eq
  have hcell9 : ((T.setVm vm').setFrames (.throwing q :: below)).heap[q]? = some ce := by
    show T.heap[q]? = some ce
    rw [hT]; exact hcell
  have hend : Ended ((T.setVm vm').setFrames (.throwing q :: below)) below (.threw q) := State.frames_setFrames _ (State.cur_lt_of_frames hfr)
  refine ⟨(T.setVm vm').setFrames (.throwing q :: below), ?_, .threw q, X'.here.running, hend, Or.inr ⟨q, rfl, E, ce, locs, hx _ hT (X'.ends _).1.alike, hcell9, hv, hcl, (X'.ends _).1, (X'.ends _).2.mono hc hs, hf⟩⟩
  rw [X.pushThrowing_eq]
  exact st
/-- a thing of a world lies in the heap -/
theorem vx_lt {D : va_G} {cl : List vw_C} {ws : va_W} {H1 : Heap} (h : va_P D cl ws H1) {k : Nat} {q : Nat × va_E} (hk : ws[k]? = some q) : q.1 < H1.size := (h k q hk).lt
end VXS
/-! ===== END ===== -/
/-! ===== BEGIN methods with a table of their own: called by a name, returning or throwing ===== -/
section VXH
/-! vx_backW, vx_callVX, vx_callSX, vx_callVW, vx_runVW, vx_runVX, vx_runSX, vx_ofWH follow the same proofs as their sisters above (Free/Laws.lean, Shelf42/LK1.lean); vx_outP calls Shelf42/NT130.lean (outThrough). -/
section
variable {l : Launch} {R : Room} {p : Program} {e : Env} {below : List Frame} {s : State} {sargs : Array Value} {y : MethodName} {len W9 : Nat}
theorem vx_backW {ws : List Cond} {rm : Room} {Pc : Array Value → State → Prop} {Qc : Array Value → State → Outcome → State → Prop} {XC : String → State → State → Prop} {mc ms : Nat} {free : Addr → Prop} {bytes : ByteArray} {maxL : Nat} {ret : Option FieldType} {hh : List (Nat × Nat × Nat × Nat)}
    (hM : vx_Met l y ws rm Pc Qc XC mc ms free) (hblind : FrameBlind Pc) (hrc : rm.cells = mc) (hrs : rm.slots = ms)
    (hframes : rm.frames + 1 ≤ R.frames) (hlocals : W9 + (maxL + 11) + rm.locals ≤ R.locals)
    (hws : ∀ w ∈ ws, ∀ a' U, s.WarmedH U.vm → w.before a' U = true) (hcode : Cond.codeWith y bytes maxL ret hh ∈ ws) (hinit : ∀ a' U, s.WarmedH U.vm → (Cond.initialized y.cls).before a' U = true) :
    vx_Back l R p e below s sargs y len W9 (PreOf R mc ms Pc) (PostOf Qc mc ms free) (vx_Post XC mc ms free) := by
  intro m meth c A g ig mk a X hg hsize hdg hW hn hp
  have h1 : (headSpec ws rm).pre.before a A.U = true := atoms_intro fun w hw => hws w hw _ _ X.warmed
  have h2 : (Cond.codeWith y bytes maxL ret hh).before a A.U = true := hws _ hcode _ _ X.warmed
  have h3 : (Cond.initialized y.cls).before a A.U = true := hinit _ _ X.warmed
  have h4 : A.cells + (headSpec ws rm).room.cells ≤ R.cells := by rw [show (headSpec ws rm).room.cells = mc from hrc]; exact hp.1
  have h5 : A.slots + (headSpec ws rm).room.slots ≤ R.slots := by rw [show (headSpec ws rm).room.slots = ms from hrs]; exact hp.2.1
  have hPc : Pc a (A.U.calling g mk a) := hblind _ _ _ _ hp.2.2
  obtain ⟨U, Ls, c0, s0⟩ := A
  dsimp only [Pt.U, Pt.locs, Pt.cells, Pt.slots] at h1 h2 h3 h4 h5 X hn hPc ⊢
  obtain ⟨m9, methY, cY, hn9, hmY, hcY, -, hlY, -⟩ := Cond.codeWith_spec h2
  cases Option.some.inj (hn9.symm.trans hn)
  obtain ⟨kY, hkY, -⟩ := className_of_methodNamed hn
  have hinitY : kY.init = .initialized := Cond.initialized_spec (findClass_of_methodNamed hn) hkY h3
  have h : At U g.method c below := by rw [hg]; exact X.here
  have hlocals9 : W9 + (maxL + 11) + (headSpec ws rm).room.locals ≤ R.locals := hlocals
  have happ : (headSpec ws rm).appliesLoose y e.platform (U.calling g mk a) = true :=
    Spec.appliesLoose_calling (g := g) h hdg hn hkY hinitY
      (X.room_calling (g := g) (R' := (headSpec ws rm).room) hsize hmY hcY hframes (by rw [hlY]; omega) h4 h5) h1
  obtain ⟨mid, hmid⟩ := h.above
  have hfr : (U.setTop g).frames = (.java g :: mid) ++ below := by rw [State.frames_setTop' g h.top, hmid]; rfl
  obtain ⟨o, s₂, hsteps, -, hend, hq⟩ := Steps.callFree hM p X.admits X.cas X.clock (acts := []) hfr happ hPc trivial
  have hq' : vx_Q Qc XC mc ms free a (U.calling g mk a) o s₂ := hq
  rw [State.frames_setTop' g h.top] at hend
  obtain ⟨g₀, hg0⟩ := Option.isSome_iff_exists.mp h.top
  obtain ⟨r, hr⟩ := State.topJava?_eq_some.mp hg0
  have hr' : (({ U with heap := s₂.heap, slotsUsed := s₂.slotsUsed } : State).setVm s₂.vm).frames = .java g₀ :: r := hr
  rcases hq' with ⟨hqc, L, hfe, hL⟩ | ⟨q, rfl, E, ce, L, hx, hce, hcv, hcl, hW₂, hsm, hL⟩
  · obtain ⟨⟨v, rfl⟩, hW₂, e2, q2, q3, q4, q5, q6⟩ := id hfe
    have e3 : s₂ = ({ (U.calling g mk a).setFrames s₂.frames with heap := s₂.heap, slotsUsed := s₂.slotsUsed } : State).setVm s₂.vm := by
      have : s₂ = ({ s₂ with vm := (U.calling g mk a).vm } : State).setVm s₂.vm := rfl
      rw [e2] at this
      exact this
    obtain ⟨c₂, i₂, len₂, hc₂, hd₂, hf₂⟩ := hend
    have hW' : U.WarmedH s₂.vm := hW₂
    have hcc : c₂ = c := by
      have h1 : s₂.code? g.method = U.code? g.method := by
        rw [State.code?_eq, State.code?_eq, hW'.alike.method?]
      exact Option.some.inj (hc₂.symm.trans (h1.trans h.code))
    subst hcc
    have hlen : len₂ = len := by rw [hdg] at hd₂; cases hd₂; rfl
    subst hlen
    have hs₂ : s₂ = (({ U with heap := s₂.heap, slotsUsed := s₂.slotsUsed } : State).setVm s₂.vm).setTop { g with pc := g.pc + len₂, stack := v.toList ++ g.stack } := by
      refine e3.trans ?_
      rw [hf₂, State.calling_eq h.top, State.setFrames_setFrames, State.setTop_of_frames _ hr', hr]
      rfl
    have hsame : U.sameButNew ({ U with heap := s₂.heap, slotsUsed := s₂.slotsUsed } : State) L mc ms := by
      refine ⟨?_, q2, q3, q4, q5, q6⟩
      obtain ⟨t, ht, -⟩ := State.frames_cons hr
      show ({ U with heap := s₂.heap, slotsUsed := s₂.slotsUsed } : State) = { U.setFrames U.frames with heap := s₂.heap, slotsUsed := s₂.slotsUsed }
      rw [State.setFrames_self ht]
    subst hg
    refine Or.inl ⟨v, ⟨(({ U with heap := s₂.heap, slotsUsed := s₂.slotsUsed } : State).setVm s₂.vm), Ls ++ L, c0 + mc, s0 + ms⟩,
      ⟨X.admits, X.cas, X.clock, X.frames, X.room, X.hears, X.method, X.code, (X.here.setHeapUsed s₂.heap s₂.slotsUsed).setVm hW'.alike, X.tail, State.WarmedH.trans X.warmed hW', X.limits, X.bytes, X.same.trans (hsame.setVm s.vm)⟩,
      ⟨g, mk, s₂, L, rfl, rfl, hqc, rfl, hL, rfl, rfl⟩, ?_⟩
    show Steps p.tables e below _ ((({ U with heap := s₂.heap, slotsUsed := s₂.slotsUsed } : State).setVm s₂.vm).setTop { g with pc := g.pc + len₂, stack := v.toList ++ g.stack })
    rw [← hs₂]
    exact hsteps
  · obtain ⟨e2, q2, q3, q4, q5, q6⟩ := id hsm
    have e3 : s₂ = ({ (U.calling g mk a).setFrames s₂.frames with heap := s₂.heap, slotsUsed := s₂.slotsUsed } : State).setVm s₂.vm := by
      have : s₂ = ({ s₂ with vm := (U.calling g mk a).vm } : State).setVm s₂.vm := rfl
      rw [e2] at this
      exact this
    have hf₂ : s₂.frames = .throwing q :: .java g :: U.frames.tail := hend
    have hW' : U.WarmedH s₂.vm := hW₂
    have hs₂ : s₂ = ((({ U with heap := s₂.heap, slotsUsed := s₂.slotsUsed } : State).setVm s₂.vm).setTop g).pushFrame (.throwing q) := by
      refine e3.trans ?_
      rw [hf₂, State.calling_eq h.top, State.setFrames_setFrames, State.pushFrame, State.frames_setTop _ hr', State.setTop_of_frames _ hr', State.setFrames_setFrames, hr]
      rfl
    have hsame : U.sameButNew ({ U with heap := s₂.heap, slotsUsed := s₂.slotsUsed } : State) L mc ms := by
      refine ⟨?_, q2, q3, q4, q5, q6⟩
      obtain ⟨t, ht, -⟩ := State.frames_cons hr
      show ({ U with heap := s₂.heap, slotsUsed := s₂.slotsUsed } : State) = { U.setFrames U.frames with heap := s₂.heap, slotsUsed := s₂.slotsUsed }
      rw [State.setFrames_self ht]
    subst hg
    refine Or.inr ⟨q, ⟨(({ U with heap := s₂.heap, slotsUsed := s₂.slotsUsed } : State).setVm s₂.vm), Ls ++ L, c0 + mc, s0 + ms⟩,
      ⟨X.admits, X.cas, X.clock, X.frames, X.room, X.hears, X.method, X.code, (X.here.setHeapUsed s₂.heap s₂.slotsUsed).setVm hW'.alike, X.tail, State.WarmedH.trans X.warmed hW', X.limits, X.bytes, X.same.trans (hsame.setVm s.vm)⟩,
      ⟨g, mk, s₂, L, E, ce, rfl, rfl, hx, hce, hcv, hcl, rfl, hL, rfl, rfl⟩, ?_⟩
    show Steps p.tables e below _ (((({ U with heap := s₂.heap, slotsUsed := s₂.slotsUsed } : State).setVm s₂.vm).setTop g).pushFrame (.throwing q))
    rw [← hs₂]
    exact hsteps
end
variable {p : Program} {l : Launch} {e : Env} {R : Room} {s : State} {m : MethodId} {args : Array Value} {below : List Frame} {meth : Method} {c : Code} {T : State} {H : Heap} {locs : List Loc} {cells slots : Nat}
theorem vx_callVX (X : Stand p l e R s m args below meth c T locs cells slots) (hexec : p.tables.exec = Jvm.exec) {own C : String} {index : Nat} {y : MethodName} {bytes : ByteArray} {maxL : Nat} {ret : Option FieldType} {hh : List (Nat × Nat × Nat × Nat)}
    (hown : s.vm.findClass own = some m.cls) (hlink : (Cond.methodLink own index y).before args s = true) (hinst : (Cond.instanceMethod y).before args s = true) (hsel : (Cond.selects C y y).before args s = true)
    (hcode : (Cond.codeWith y bytes maxL ret hh).before args s = true) (hy : y.cls ≠ "java/lang/invoke/MethodHandle" ∧ y.cls ≠ "java/lang/invoke/VarHandle")
    {W9 : Nat} {Pre : Pt → Array Value → Prop} {Post : Pt → Array Value → Option Value → Pt → Prop} {PostX : Pt → Array Value → Addr → Pt → Prop} (hK : vx_Back l R p e below s args y 3 W9 Pre Post PostX)
    {b : Addr} {cellB : Cell} (hcell : T.heap[b]? = some cellB) (hobj : cellB.vm.isStatics = false) (hcls : s.vm.findClass C = some cellB.cls)
    {g : JFrame} (hg : g.method = m) (hsize : g.locals.size = c.maxLocals) {argsL rest : List Value} (hlen : ∀ sig, parseMethodDescriptor y.desc = some sig → argsL.length = sig.parameters.length)
    (hstack : g.stack = argsL.reverse ++ .ref b :: rest) (hW : 2 * g.monitorRoom + (rest.map fun v => v.category).sum ≤ W9) (hdg : decode c.code g.pc = .ok (.invokevirtual index, 3))
    (hpre : ∀ vm₁, s.WarmedH vm₁ → Pre ⟨T.setVm vm₁, locs, cells, slots⟩ (Value.ref b :: argsL).toArray) :
    (∃ (v : Option Value) (vm₁ : Vm) (B : Pt), s.WarmedH vm₁ ∧ Stand p l e R s m args below meth c B.U B.locs B.cells B.slots ∧ Post ⟨T.setVm vm₁, locs, cells, slots⟩ (Value.ref b :: argsL).toArray v B ∧
      ∀ target, Steps p.tables e below (B.U.setTop { g with pc := g.pc + 3, stack := v.toList ++ rest }) target → Steps p.tables e below (T.setTop g) target) ∨
    (∃ (q : Addr) (vm₁ : Vm) (B : Pt), s.WarmedH vm₁ ∧ Stand p l e R s m args below meth c B.U B.locs B.cells B.slots ∧ PostX ⟨T.setVm vm₁, locs, cells, slots⟩ (Value.ref b :: argsL).toArray q B ∧
      Steps p.tables e below (T.setTop g) ((B.U.setTop { g with stack := rest }).pushFrame (.throwing q))) := by
  obtain ⟨mk, methM, hnamed, hmethM, hstM, habM⟩ := Cond.instanceMethod_spec hinst
  obtain ⟨m8, methM', cM, hn8, hmethM', -, -, -, -, -, -, hsigM⟩ := Cond.codeWith_spec hcode
  cases Option.some.inj (hn8.symm.trans hnamed)
  cases hmethM.symm.trans hmethM'
  obtain ⟨c2, r2, m2, q1, q2, q3, q4, kP, hkP, hkPi⟩ := Cond.selects_spec hsel
  cases hcls.symm.trans q1
  cases (State.methodFound?_of_named hnamed hy).symm.trans q2
  cases hnamed.symm.trans q3
  have hselP : selectMethod e.platform s.vm cellB.cls mk = .method mk := by rw [Launch.admits_selectMethod X.admits]; exact q4
  obtain ⟨vm₁, X₁, hstep₁⟩ := X.invokevirtual hexec hown hlink hnamed hmethM hstM hkP hkPi hy (a := b) (cell := cellB) hcell
    (fun z h => by rw [h] at hobj; cases hobj) hselP hmethM habM hkP hkPi (g := g) hg (argsL := argsL) (rest := rest) (hlen _ hsigM) hstack hdg
  rcases hK m meth c ⟨T.setVm vm₁, locs, cells, slots⟩ { g with stack := rest } (.invokevirtual index) mk (Value.ref b :: argsL).toArray X₁ hg hsize hdg hW (X₁.named hnamed) (hpre vm₁ X₁.warmed) with ⟨v, B, X', hpost, hsteps⟩ | ⟨q, B, X', hpost, hsteps⟩
  · exact Or.inl ⟨v, vm₁, B, X₁.warmed, X', hpost, fun target h => hstep₁ _ fun acts => by rw [doInvoke_state]; exact hsteps.trans h⟩
  · exact Or.inr ⟨q, vm₁, B, X₁.warmed, X', hpost, hstep₁ _ fun acts => by rw [doInvoke_state]; exact hsteps⟩
theorem vx_callSX (X : Stand p l e R s m args below meth c T locs cells slots) (hexec : p.tables.exec = Jvm.exec) {own : String} {index : Nat} {y : MethodName} {bytes : ByteArray} {maxL : Nat} {ret : Option FieldType} {hh : List (Nat × Nat × Nat × Nat)}
    (hown : s.vm.findClass own = some m.cls) (hlink : (Cond.methodLink own index y).before args s = true) (hstat : (Cond.static y).before args s = true) (hinit : (Cond.initialized y.cls).before args s = true)
    (hcode : (Cond.codeWith y bytes maxL ret hh).before args s = true) (hy : y.cls ≠ "java/lang/invoke/MethodHandle" ∧ y.cls ≠ "java/lang/invoke/VarHandle")
    {W9 : Nat} {Pre : Pt → Array Value → Prop} {Post : Pt → Array Value → Option Value → Pt → Prop} {PostX : Pt → Array Value → Addr → Pt → Prop} (hK : vx_Back l R p e below s args y 3 W9 Pre Post PostX)
    {g : JFrame} (hg : g.method = m) (hsize : g.locals.size = c.maxLocals) {argsL rest : List Value} (hlen : ∀ sig, parseMethodDescriptor y.desc = some sig → argsL.length = sig.parameters.length)
    (hstack : g.stack = argsL.reverse ++ rest) (hW : 2 * g.monitorRoom + (rest.map fun v => v.category).sum ≤ W9) (hdg : decode c.code g.pc = .ok (.invokestatic index, 3))
    (hpre : ∀ vm₁, s.WarmedH vm₁ → Pre ⟨T.setVm vm₁, locs, cells, slots⟩ argsL.toArray) :
    (∃ (v : Option Value) (vm₁ : Vm) (B : Pt), s.WarmedH vm₁ ∧ Stand p l e R s m args below meth c B.U B.locs B.cells B.slots ∧ Post ⟨T.setVm vm₁, locs, cells, slots⟩ argsL.toArray v B ∧
      ∀ target, Steps p.tables e below (B.U.setTop { g with pc := g.pc + 3, stack := v.toList ++ rest }) target → Steps p.tables e below (T.setTop g) target) ∨
    (∃ (q : Addr) (vm₁ : Vm) (B : Pt), s.WarmedH vm₁ ∧ Stand p l e R s m args below meth c B.U B.locs B.cells B.slots ∧ PostX ⟨T.setVm vm₁, locs, cells, slots⟩ argsL.toArray q B ∧
      Steps p.tables e below (T.setTop g) ((B.U.setTop { g with stack := rest }).pushFrame (.throwing q))) := by
  obtain ⟨mk, methM, cM, hnamed, hmethM, -, -, -, -, -, -, hsigM⟩ := Cond.codeWith_spec hcode
  have hstatic : methM.isStatic = true := Cond.static_spec hnamed hmethM hstat
  obtain ⟨kP, hkP, -⟩ := className_of_methodNamed hnamed
  have hinitP : kP.init = .initialized := Cond.initialized_spec (findClass_of_methodNamed hnamed) hkP hinit
  obtain ⟨vm₁, X₁, hstep₁⟩ := X.invokestatic hexec hown hlink hnamed hmethM hstatic hkP hinitP hy (g := g) hg (argsL := argsL) (rest := rest) (hlen _ hsigM) hstack hdg
  rcases hK m meth c ⟨T.setVm vm₁, locs, cells, slots⟩ { g with stack := rest } (.invokestatic index) mk argsL.toArray X₁ hg hsize hdg hW (X₁.named hnamed) (hpre vm₁ X₁.warmed) with ⟨v, B, X', hpost, hsteps⟩ | ⟨q, B, X', hpost, hsteps⟩
  · exact Or.inl ⟨v, vm₁, B, X₁.warmed, X', hpost, fun target h => hstep₁ _ fun acts => by rw [doInvoke_state]; exact hsteps.trans h⟩
  · exact Or.inr ⟨q, vm₁, B, X₁.warmed, X', hpost, hstep₁ _ fun acts => by rw [doInvoke_state]; exact hsteps⟩
theorem vx_callVW (X : Stand p l e R s m args below meth c T locs cells slots) (hexec : p.tables.exec = Jvm.exec) {own C : String} {index : Nat} {y : MethodName} {bytes : ByteArray} {maxL : Nat} {ret : Option FieldType} {hh : List (Nat × Nat × Nat × Nat)}
    (hown : s.vm.findClass own = some m.cls) (hlink : (Cond.methodLink own index y).before args s = true) (hinst : (Cond.instanceMethod y).before args s = true) (hsel : (Cond.selects C y y).before args s = true)
    (hcode : (Cond.codeWith y bytes maxL ret hh).before args s = true) (hy : y.cls ≠ "java/lang/invoke/MethodHandle" ∧ y.cls ≠ "java/lang/invoke/VarHandle")
    {W9 : Nat} {Pre : Pt → Array Value → Prop} {Post : Pt → Array Value → Option Value → Pt → Prop} (hK : Back l R p e below s args y 3 W9 Pre Post)
    {b : Addr} {cellB : Cell} (hcell : T.heap[b]? = some cellB) (hobj : cellB.vm.isStatics = false) (hcls : s.vm.findClass C = some cellB.cls)
    {g : JFrame} (hg : g.method = m) (hsize : g.locals.size = c.maxLocals) {argsL rest : List Value} (hlen : ∀ sig, parseMethodDescriptor y.desc = some sig → argsL.length = sig.parameters.length)
    (hstack : g.stack = argsL.reverse ++ .ref b :: rest) (hW : 2 * g.monitorRoom + (rest.map fun v => v.category).sum ≤ W9) (hdg : decode c.code g.pc = .ok (.invokevirtual index, 3))
    (hpre : ∀ vm₁, s.WarmedH vm₁ → Pre ⟨T.setVm vm₁, locs, cells, slots⟩ (Value.ref b :: argsL).toArray) :
    ∃ (v : Option Value) (vm₁ : Vm) (B : Pt), s.WarmedH vm₁ ∧ Stand p l e R s m args below meth c B.U B.locs B.cells B.slots ∧ Post ⟨T.setVm vm₁, locs, cells, slots⟩ (Value.ref b :: argsL).toArray v B ∧
      ∀ target, Steps p.tables e below (B.U.setTop { g with pc := g.pc + 3, stack := v.toList ++ rest }) target → Steps p.tables e below (T.setTop g) target := by
  obtain ⟨mk, methM, hnamed, hmethM, hstM, habM⟩ := Cond.instanceMethod_spec hinst
  obtain ⟨m8, methM', cM, hn8, hmethM', -, -, -, -, -, -, hsigM⟩ := Cond.codeWith_spec hcode
  cases Option.some.inj (hn8.symm.trans hnamed)
  cases hmethM.symm.trans hmethM'
  obtain ⟨c2, r2, m2, q1, q2, q3, q4, kP, hkP, hkPi⟩ := Cond.selects_spec hsel
  cases hcls.symm.trans q1
  cases (State.methodFound?_of_named hnamed hy).symm.trans q2
  cases hnamed.symm.trans q3
  have hselP : selectMethod e.platform s.vm cellB.cls mk = .method mk := by rw [Launch.admits_selectMethod X.admits]; exact q4
  obtain ⟨vm₁, X₁, hstep₁⟩ := X.invokevirtual hexec hown hlink hnamed hmethM hstM hkP hkPi hy (a := b) (cell := cellB) hcell
    (fun z h => by rw [h] at hobj; cases hobj) hselP hmethM habM hkP hkPi (g := g) hg (argsL := argsL) (rest := rest) (hlen _ hsigM) hstack hdg
  obtain ⟨v, B, X', hpost, hsteps⟩ := hK m meth c ⟨T.setVm vm₁, locs, cells, slots⟩ { g with stack := rest } (.invokevirtual index) mk (Value.ref b :: argsL).toArray X₁ hg hsize hdg hW (X₁.named hnamed) (hpre vm₁ X₁.warmed)
  exact ⟨v, vm₁, B, X₁.warmed, X', hpost, fun target h => hstep₁ _ fun acts => by rw [doInvoke_state]; exact hsteps.trans h⟩
abbrev vx_CVW (R : Room) (s : State) (args : Array Value) (own C : String) (index : Nat) (y : MethodName) (bytes : ByteArray) (maxL : Nat) (ret : Option FieldType) (hh : List (Nat × Nat × Nat × Nat)) (ws : List Cond) (rm : Room) (mc ms n : Nat) : Prop :=
  (rm.cells = mc ∧ rm.slots = ms ∧ rm.frames + 1 ≤ R.frames ∧ 8 + (maxL + 11) + rm.locals ≤ R.locals ∧ (∀ w ∈ ws, ∀ (a' : Array Value) (U : State), s.WarmedH U.vm → w.before a' U = true) ∧ Cond.codeWith y bytes maxL ret hh ∈ ws) ∧
  (Cond.codeWith y bytes maxL ret hh).before args s = true ∧ (Cond.initialized y.cls).before args s = true ∧ (y.cls ≠ "java/lang/invoke/MethodHandle" ∧ y.cls ≠ "java/lang/invoke/VarHandle") ∧
  (∀ sig, parseMethodDescriptor y.desc = some sig → n = sig.parameters.length) ∧ (Cond.methodLink own index y).before args s = true ∧ (Cond.instanceMethod y).before args s = true ∧ (Cond.selects C y y).before args s = true
theorem vx_cwVW {own C : String} {index maxL mc ms : Nat} {y : MethodName} {bytes : ByteArray} {ret : Option FieldType} {hh : List (Nat × Nat × Nat × Nat)} {Ts ws ws' : List Cond} {rm : Room} (n : Nat) (ht : ∀ w ∈ Ts, w.before args s = true) (hT : GoodIn Ts (wsV own index C y ws)) (hw : ws = Cond.codeWith y bytes maxL ret hh :: ws') (hrc : rm.cells = mc) (hrs : rm.slots = ms)
    (hd : y.cls = C ∧ y.cls ≠ "java/lang/invoke/MethodHandle" ∧ y.cls ≠ "java/lang/invoke/VarHandle" ∧ (parseMethodDescriptor y.desc).map (fun d => d.parameters.length) = some n) (hR : rm.frames + 1 ≤ R.frames ∧ 8 + (maxL + 11) + rm.locals ≤ R.locals) :
    vx_CVW R s args own C index y bytes maxL ret hh ws rm mc ms n := by
  obtain ⟨hC, hd⟩ := hd
  subst hC
  have ok : ∀ w ∈ wsV own index y.cls y ws, w.before args s = true := fun w h => ht w (hT w h).1
  have hG : GoodIn Ts ws := fun w h => hT w (by unfold wsV; exact List.mem_append_right _ h)
  have hc : Cond.codeWith y bytes maxL ret hh ∈ ws := by rw [hw]; exact List.mem_cons_self
  refine ⟨⟨hrc, hrs, hR.1, hR.2, pay_in ht hG, hc⟩, ht _ (hG _ hc).1, ok _ (by simp [wsV]), ⟨hd.1, hd.2.1⟩, fun sig h => ?_, ok _ (by simp [wsV]), ok _ (by simp [wsV]), ok _ (by simp [wsV])⟩
  have h2 := hd.2.2
  rw [h] at h2
  exact (Option.some.inj h2).symm
theorem vx_runVW {y : MethodName} {bytes cc : ByteArray} {maxL nL mc ms n index : Nat} {ret : Option FieldType} {hh : List (Nat × Nat × Nat × Nat)} {ws : List Cond} {rm : Room} {Pc : Array Value → State → Prop} {Qc : Array Value → State → Outcome → State → Prop} {free : Addr → Prop} {Ts : List Cond} {own C : String} {b : Addr} {As rest : List Value} {g : JFrame}
    (S : CallFix p m c cc nL s args Ts own) (hM : Met l y ws rm Pc Qc mc ms free) (cw : vx_CVW R s args own C index y bytes maxL ret hh ws rm mc ms n) (hp : PreV s H C b Pc As)
    (hg : g.method = m) (hn : As.length = n) (hsize : g.locals.size = nL) (hstack : g.stack = As.reverse ++ .ref b :: rest) (hW : 2 * g.monitorRoom + (rest.map fun v => v.category).sum ≤ 8) (hdg : decode cc g.pc = .ok (.invokevirtual index, 3)) (hf : cells + mc ≤ R.cells ∧ slots + ms ≤ R.slots) :
    va_Run p l e R s m args below meth c H locs cells slots mc ms g rest (Qc (Value.ref b :: As).toArray) free := by
  obtain ⟨⟨hrc, hrs, hfr, hlo, hws, hcw⟩, hcode, hini, hy, hlen, hl, hin, hse⟩ := cw
  have hK : Back l R p e below s args y 3 8 (PreOf R mc ms Pc) (PostOf Qc mc ms free) := va_backW (hh := hh) (bytes := bytes) (maxL := maxL) (ret := ret) hM hp.1 hrc hrs hfr hlo hws hcw (fun a' U hW => word_at hW (Or.inl (by first | rfl | simp [Cond.onTables, Cond.keeps, Cond.steady])) hini)
  obtain ⟨hx, hb, hml, ho, -⟩ := S
  obtain ⟨-, ⟨cellB, hcB, hoB, hclB⟩, hPc⟩ := hp
  intro T hT X
  obtain ⟨v, vm₁, ⟨U', l2, c2, s2⟩, hW₁, X', ⟨g', mk, t, L, e1, e2, hq, h1, hL, h2, h3⟩, st⟩ := vx_callVW X hx (C := C) (hh := hh) (bytes := bytes) (maxL := maxL) (ret := ret) ho hl hin hse hcode hy hK (by rw [hT]; exact hcB) hoB hclB hg (hsize.trans hml.symm) (argsL := As) (rest := rest) (fun sig h => hn.trans (hlen sig h)) hstack hW (by rw [hb]; exact hdg)
    (fun vm₁ hW₁ => ⟨hf.1, hf.2, hPc (T.setVm vm₁) hT hW₁⟩)
  dsimp only [Pt.U, Pt.locs, Pt.cells, Pt.slots] at X' e1 e2 h1 h2 h3 st
  subst h1; subst h2; subst h3
  exact ⟨v, (T.setVm vm₁).calling g' mk (Value.ref b :: As).toArray, t, U', L, hT, X', hL, e1, e2, hq, st⟩
section
variable {y : MethodName} {bytes cc : ByteArray} {maxL nL mc ms n index : Nat} {ret : Option FieldType} {ws : List Cond} {rm : Room} {Pc : Array Value → State → Prop} {Qc : Array Value → State → Outcome → State → Prop} {XC : String → State → State → Prop} {free : Addr → Prop} {Ts : List Cond} {own C : String} {b : Addr} {As rest : List Value} {g : JFrame}
theorem vx_runVX {hh : List (Nat × Nat × Nat × Nat)} (S : CallFix p m c cc nL s args Ts own) (hM : vx_Met l y ws rm Pc Qc XC mc ms free) (cw : vx_CVW R s args own C index y bytes maxL ret hh ws rm mc ms n) (hp : PreV s H C b Pc As)
    (hg : g.method = m) (hn : As.length = n) (hsize : g.locals.size = nL) (hstack : g.stack = As.reverse ++ .ref b :: rest) (hW : 2 * g.monitorRoom + (rest.map fun v => v.category).sum ≤ 8) (hdg : decode cc g.pc = .ok (.invokevirtual index, 3)) (hf : cells + mc ≤ R.cells ∧ slots + ms ≤ R.slots) :
    vx_Run p l e R s m args below meth c H locs cells slots mc ms g rest (Qc (Value.ref b :: As).toArray) XC free := by
  obtain ⟨⟨hrc, hrs, hfr, hlo, hws, hcw⟩, hcode, hini, hy, hlen, hl, hin, hse⟩ := cw
  have hK : vx_Back l R p e below s args y 3 8 (PreOf R mc ms Pc) (PostOf Qc mc ms free) (vx_Post XC mc ms free) := vx_backW (hh := hh) (bytes := bytes) (maxL := maxL) (ret := ret) hM hp.1 hrc hrs hfr hlo hws hcw (fun a' U hW => word_at hW (Or.inl (by first | rfl | simp [Cond.onTables, Cond.keeps, Cond.steady])) hini)
  obtain ⟨hx, hb, hml, ho, -⟩ := S
  obtain ⟨-, ⟨cellB, hcB, hoB, hclB⟩, hPc⟩ := hp
  intro T hT X
  rcases vx_callVX X hx (C := C) (hh := hh) (bytes := bytes) (maxL := maxL) (ret := ret) ho hl hin hse hcode hy hK (by rw [hT]; exact hcB) hoB hclB hg (hsize.trans hml.symm) (argsL := As) (rest := rest) (fun sig h => hn.trans (hlen sig h)) hstack hW (by rw [hb]; exact hdg)
    (fun vm₁ hW₁ => ⟨hf.1, hf.2, hPc (T.setVm vm₁) hT hW₁⟩) with ⟨v, vm₁, ⟨U', l2, c2, s2⟩, hW₁, X', ⟨g', mk, t, L, e1, e2, hq, h1, hL, h2, h3⟩, st⟩ | ⟨q, vm₁, ⟨U', l2, c2, s2⟩, hW₁, X', ⟨g', mk, t, L, E, ce, e1, e2, hq, hce, hcv, hcl, h1, hL, h2, h3⟩, st⟩
  · dsimp only [Pt.U, Pt.locs, Pt.cells, Pt.slots] at X' e1 e2 h1 h2 h3 st
    subst h1; subst h2; subst h3
    exact Or.inl ⟨v, (T.setVm vm₁).calling g' mk (Value.ref b :: As).toArray, t, U', L, hT, X', hL, e1, e2, hq, st⟩
  · dsimp only [Pt.U, Pt.locs, Pt.cells, Pt.slots] at X' e1 e2 h1 h2 h3 st hcl
    subst h1; subst h2; subst h3
    exact Or.inr ⟨q, (T.setVm vm₁).calling g' mk (Value.ref b :: As).toArray, t, U', L, E, ce, hT, X', hL, e1, e2, hq, hce, hcv, vx_cls hW₁ hcl, st⟩
theorem vx_runSX {hh : List (Nat × Nat × Nat × Nat)} (S : CallFix p m c cc nL s args Ts own) (hM : vx_Met l y ws rm Pc Qc XC mc ms free) (cw : vx_CSW R s args own index y bytes maxL ret hh ws rm mc ms n) (hp : PreS s H Pc As)
    (hg : g.method = m) (hn : As.length = n) (hsize : g.locals.size = nL) (hstack : g.stack = As.reverse ++ rest) (hW : 2 * g.monitorRoom + (rest.map fun v => v.category).sum ≤ 8) (hdg : decode cc g.pc = .ok (.invokestatic index, 3)) (hf : cells + mc ≤ R.cells ∧ slots + ms ≤ R.slots) :
    vx_Run p l e R s m args below meth c H locs cells slots mc ms g rest (Qc As.toArray) XC free := by
  obtain ⟨⟨hrc, hrs, hfr, hlo, hws, hcw⟩, hcode, hini, hy, hlen, hl, hstt⟩ := cw
  have hK : vx_Back l R p e below s args y 3 8 (PreOf R mc ms Pc) (PostOf Qc mc ms free) (vx_Post XC mc ms free) := vx_backW (hh := hh) (bytes := bytes) (maxL := maxL) (ret := ret) hM hp.1 hrc hrs hfr hlo hws hcw (fun a' U hW => word_at hW (Or.inl (by first | rfl | simp [Cond.onTables, Cond.keeps, Cond.steady])) hini)
  obtain ⟨hx, hb, hml, ho, -⟩ := S
  intro T hT X
  rcases vx_callSX X hx (hh := hh) (bytes := bytes) (maxL := maxL) (ret := ret) ho hl hstt hini hcode hy hK hg (hsize.trans hml.symm) (argsL := As) (rest := rest) (fun sig h => hn.trans (hlen sig h)) hstack hW (by rw [hb]; exact hdg)
    (fun vm₁ hW₁ => ⟨hf.1, hf.2, hp.2 (T.setVm vm₁) hT hW₁⟩) with ⟨v, vm₁, ⟨U', l2, c2, s2⟩, hW₁, X', ⟨g', mk, t, L, e1, e2, hq, h1, hL, h2, h3⟩, st⟩ | ⟨q, vm₁, ⟨U', l2, c2, s2⟩, hW₁, X', ⟨g', mk, t, L, E, ce, e1, e2, hq, hce, hcv, hcl, h1, hL, h2, h3⟩, st⟩
  · dsimp only [Pt.U, Pt.locs, Pt.cells, Pt.slots] at X' e1 e2 h1 h2 h3 st
    subst h1; subst h2; subst h3
    exact Or.inl ⟨v, (T.setVm vm₁).calling g' mk As.toArray, t, U', L, hT, X', hL, e1, e2, hq, st⟩
  · dsimp only [Pt.U, Pt.locs, Pt.cells, Pt.slots] at X' e1 e2 h1 h2 h3 st hcl
    subst h1; subst h2; subst h3
    exact Or.inr ⟨q, (T.setVm vm₁).calling g' mk As.toArray, t, U', L, E, ce, hT, X', hL, e1, e2, hq, hce, hcv, vx_cls hW₁ hcl, st⟩
end
end VXH
theorem vx_ofWH {l : Launch} {y : MethodName} {ws ws' : List Cond} {rm : Room} {Pc : Array Value → State → Prop} {Qc : Array Value → State → Outcome → State → Prop} {XC : String → State → State → Prop} {mc ms : Nat} {free : Addr → Prop} {cc : ByteArray} {maxL : Nat} {ret : Option FieldType} {hh : List (Nat × Nat × Nat × Nat)}
    (hy : plainName y.cls = true) (hw : ws = Cond.codeWith y cc maxL ret hh :: ws')
    (body : ∀ p e s m args below meth c s₁, BodyLoose p l y (headSpec ws rm) cc maxL ret e s m args below meth c s₁ → c.maxLocals = maxL → Pc args s →
      W p l e (headSpec ws rm).room s m args below meth c s.heap [] 0 0 (vx_MQ below Qc XC args s mc ms free) (entryFrame m args maxL)) : vx_Met l y ws rm Pc Qc XC mc ms free := by
  refine MetFree.of_bodyS (code := cc) (maxLocals := maxL) (ret := ret) hy ?_ ?_
  · intro args s m h hn
    obtain ⟨m9, meth, c, hn9, h1, h2, h3, h4, -, h5, h6, -⟩ := Cond.codeWith_spec (atoms_spec (ws := ws) h _ (by rw [hw]; exact List.mem_cons_self))
    cases hn.symm.trans hn9
    exact ⟨meth, c, h1, h2, h3, h4, h5, h6⟩
  · intro p e s m args below meth c s₁ B hml hP _
    have hh0 : s₁.heap = s.heap := by rw [B.state]; rfl
    obtain ⟨t, a1, o, b1, b2, b3⟩ := body p e s m args below meth c s₁ B hml hP s₁ hh0 (Stand.of_body B)
    exact ⟨t, o, a1, b1, b2, b3⟩
/-! ===== END ===== -/
end
section
/-! ===== BEGIN printed: names, fields, word lists, decode rows ===== -/
def RX0 : String := "MarkdownPlanner$Plans"
def TX0 : u_T := fun k => match k with
  | 0 => ("MarkdownPlanner$Plans", "prices", "[I", true)
  | 1 => ("MarkdownPlanner$Plans", "demands", "[I", true)
  | 2 => ("MarkdownPlanner$Plans", "worths", "[I", true)
  | 3 => ("MarkdownPlanner$Plans", "ladder", "[I", true)
  | 4 => ("MarkdownPlanner$Plans", "firstWeek", "I", false)
  | 5 => ("MarkdownPlanner$Plans", "freeWeek", "I", false)
  | 6 => ("MarkdownPlanner$Plans", "endWeek", "I", false)
  | 7 => ("MarkdownPlanner$Plans", "gap", "I", false)
  | 8 => ("MarkdownPlanner$Plans", "remnant", "I", false)
  | 9 => ("MarkdownPlanner$Plans", "ownStep", "I", false)
  | 10 => ("MarkdownPlanner$Plans", "ownStock", "I", false)
  | _ => ("MarkdownPlanner$Plans", "mostLeft", "I", false)
def tyX0 : Nat → FieldType := fun k => match k with
  | 0 => .array .int
  | 1 => .array .int
  | 2 => .array .int
  | 3 => .array .int
  | 4 => .int
  | 5 => .int
  | 6 => .int
  | 7 => .int
  | 8 => .int
  | 9 => .int
  | 10 => .int
  | _ => .int
abbrev wsX00 : List Cond := u_ws RX0 TX0 12
theorem nmX0 : ∀ a, a < 12 → ∀ b, b < 12 → a ≠ b → (TX0 a).2.1 ≠ (TX0 b).2.1 := by decide +kernel
theorem tyX0_ok : ∀ k, k < 12 → parseFieldDescriptor (TX0 k).2.2.1 = some (tyX0 k) := by decide +kernel
abbrev cX0_init : ByteArray := prog_2_method_1_code
def yX0_init : MethodName := ⟨RX0, "<init>", "()V"⟩
abbrev cX0_lookAt : ByteArray := prog_2_method_2_code
def yX0_lookAt : MethodName := ⟨RX0, "lookAt", "(LMarkdownPlanner$Season;LMarkdownPlanner$Store;)V"⟩
abbrev cX0_greatestWorth : ByteArray := prog_2_method_3_code
def yX0_greatestWorth : MethodName := ⟨RX0, "greatestWorth", "(I)I"⟩
abbrev cX0_bestStepIn : ByteArray := prog_2_method_4_code
def yX0_bestStepIn : MethodName := ⟨RX0, "bestStepIn", "(I)I"⟩
abbrev cX0_tellWorths : ByteArray := prog_2_method_5_code
def yX0_tellWorths : MethodName := ⟨RX0, "tellWorths", "(I)V"⟩
abbrev cX0_placeOf : ByteArray := prog_2_method_6_code
def yX0_placeOf : MethodName := ⟨RX0, "placeOf", "(III)I"⟩
abbrev cX0_worthOfChoosing : ByteArray := prog_2_method_7_code
def yX0_worthOfChoosing : MethodName := ⟨RX0, "worthOfChoosing", "(III)I"⟩
abbrev cX0_lowestBestStep : ByteArray := prog_2_method_8_code
def yX0_lowestBestStep : MethodName := ⟨RX0, "lowestBestStep", "(III)I"⟩
abbrev cX0_worthOfTaking : ByteArray := prog_2_method_9_code
def yX0_worthOfTaking : MethodName := ⟨RX0, "worthOfTaking", "(IIII)I"⟩
abbrev cX0_worthOfKeeping : ByteArray := prog_2_method_10_code
def yX0_worthOfKeeping : MethodName := ⟨RX0, "worthOfKeeping", "(IIII)I"⟩
abbrev cX0_worthFrom : ByteArray := prog_2_method_11_code
def yX0_worthFrom : MethodName := ⟨RX0, "worthFrom", "(III)I"⟩
abbrev cX0_greatestWorthByAll : ByteArray := prog_2_method_12_code
def yX0_greatestWorthByAll : MethodName := ⟨RX0, "greatestWorthByAll", "()I"⟩
abbrev cX0_worthOfLadder : ByteArray := prog_2_method_13_code
def yX0_worthOfLadder : MethodName := ⟨RX0, "worthOfLadder", "(I)I"⟩
abbrev cX0_turnToNextLadder : ByteArray := prog_2_method_14_code
def yX0_turnToNextLadder : MethodName := ⟨RX0, "turnToNextLadder", "(I)Z"⟩
def RX1 : String := "MarkdownPlanner$Season"
def TX1 : u_T := fun k => match k with
  | 0 => ("MarkdownPlanner$Season", "prices", "[I", true)
  | 1 => ("MarkdownPlanner$Season", "weeks", "I", false)
  | 2 => ("MarkdownPlanner$Season", "week", "I", false)
  | 3 => ("MarkdownPlanner$Season", "gap", "I", false)
  | 4 => ("MarkdownPlanner$Season", "remnant", "I", false)
  | 5 => ("MarkdownPlanner$Season", "moving", "I", false)
  | _ => ("MarkdownPlanner$Season", "taken", "I", false)
def tyX1 : Nat → FieldType := fun k => match k with
  | 0 => .array .int
  | 1 => .int
  | 2 => .int
  | 3 => .int
  | 4 => .int
  | 5 => .int
  | _ => .int
abbrev wsX10 : List Cond := u_ws RX1 TX1 7
theorem nmX1 : ∀ a, a < 7 → ∀ b, b < 7 → a ≠ b → (TX1 a).2.1 ≠ (TX1 b).2.1 := by decide +kernel
theorem tyX1_ok : ∀ k, k < 7 → parseFieldDescriptor (TX1 k).2.2.1 = some (tyX1 k) := by decide +kernel
abbrev cX1_init : ByteArray := prog_3_method_1_code
def yX1_init : MethodName := ⟨RX1, "<init>", "()V"⟩
abbrev cX1_startAnew : ByteArray := prog_3_method_2_code
def yX1_startAnew : MethodName := ⟨RX1, "startAnew", "(I)V"⟩
abbrev cX1_keepsLadderDown : ByteArray := prog_3_method_3_code
def yX1_keepsLadderDown : MethodName := ⟨RX1, "keepsLadderDown", "(II)Z"⟩
def RX2 : String := "MarkdownPlanner$Store"
def TX2 : u_T := fun k => match k with
  | 0 => ("MarkdownPlanner$Store", "demands", "[I", true)
  | 1 => ("MarkdownPlanner$Store", "pieces", "[I", true)
  | 2 => ("MarkdownPlanner$Store", "step", "I", false)
  | 3 => ("MarkdownPlanner$Store", "markedDownIn", "I", false)
  | _ => ("MarkdownPlanner$Store", "piecesSold", "I", false)
def tyX2 : Nat → FieldType := fun k => match k with
  | 0 => .array .int
  | 1 => .array .int
  | 2 => .int
  | 3 => .int
  | _ => .int
abbrev wsX20 : List Cond := u_ws RX2 TX2 5
theorem nmX2 : ∀ a, a < 5 → ∀ b, b < 5 → a ≠ b → (TX2 a).2.1 ≠ (TX2 b).2.1 := by decide +kernel
theorem tyX2_ok : ∀ k, k < 5 → parseFieldDescriptor (TX2 k).2.2.1 = some (tyX2 k) := by decide +kernel
abbrev cX2_init : ByteArray := prog_4_method_1_code
def yX2_init : MethodName := ⟨RX2, "<init>", "()V"⟩
abbrev cX2_startAnew : ByteArray := prog_4_method_2_code
def yX2_startAnew : MethodName := ⟨RX2, "startAnew", "()V"⟩
abbrev cX2_waitFrom : ByteArray := prog_4_method_3_code
def yX2_waitFrom : MethodName := ⟨RX2, "waitFrom", "(II)I"⟩
abbrev cX2_wholeStock : ByteArray := prog_4_method_4_code
def yX2_wholeStock : MethodName := ⟨RX2, "wholeStock", "()I"⟩
abbrev cX2_sizesInStock : ByteArray := prog_4_method_5_code
def yX2_sizesInStock : MethodName := ⟨RX2, "sizesInStock", "()I"⟩
abbrev cX2_salesAt : ByteArray := prog_4_method_6_code
def yX2_salesAt : MethodName := ⟨RX2, "salesAt", "(I)I"⟩
abbrev cX2_sellForAWeek : ByteArray := prog_4_method_7_code
def yX2_sellForAWeek : MethodName := ⟨RX2, "sellForAWeek", "()I"⟩
abbrev cX2_fullestSize : ByteArray := prog_4_method_8_code
def yX2_fullestSize : MethodName := ⟨RX2, "fullestSize", "()I"⟩
def RX3 : String := "MarkdownPlanner"
def TX3 : u_T := fun k => match k with
  | 0 => ("MarkdownPlanner", "season", "LMarkdownPlanner$Season;", true)
  | 1 => ("MarkdownPlanner", "stores", "[LMarkdownPlanner$Store;", true)
  | _ => ("MarkdownPlanner", "plans", "LMarkdownPlanner$Plans;", true)
def tyX3 : Nat → FieldType := fun k => match k with
  | 0 => .object "MarkdownPlanner$Season"
  | 1 => .array (.object "MarkdownPlanner$Store")
  | _ => .object "MarkdownPlanner$Plans"
abbrev wsX30 : List Cond := u_ws RX3 TX3 3
theorem nmX3 : ∀ a, a < 3 → ∀ b, b < 3 → a ≠ b → (TX3 a).2.1 ≠ (TX3 b).2.1 := by decide +kernel
theorem tyX3_ok : ∀ k, k < 3 → parseFieldDescriptor (TX3 k).2.2.1 = some (tyX3 k) := by decide +kernel
abbrev cX3_init : ByteArray := prog_1_method_1_code
def yX3_init : MethodName := ⟨RX3, "<init>", "()V"⟩
abbrev cX3_begin : ByteArray := prog_1_method_2_code
def yX3_begin : MethodName := ⟨RX3, "begin", "(I)I"⟩
abbrev cX3_setPrice : ByteArray := prog_1_method_3_code
def yX3_setPrice : MethodName := ⟨RX3, "setPrice", "(II)I"⟩
abbrev cX3_setDemand : ByteArray := prog_1_method_4_code
def yX3_setDemand : MethodName := ⟨RX3, "setDemand", "(III)I"⟩
abbrev cX3_setRules : ByteArray := prog_1_method_5_code
def yX3_setRules : MethodName := ⟨RX3, "setRules", "(III)V"⟩
abbrev cX3_put : ByteArray := prog_1_method_6_code
def yX3_put : MethodName := ⟨RX3, "put", "(III)I"⟩
abbrev cX3_markDown : ByteArray := prog_1_method_7_code
def yX3_markDown : MethodName := ⟨RX3, "markDown", "(II)I"⟩
abbrev cX3_move : ByteArray := prog_1_method_8_code
def yX3_move : MethodName := ⟨RX3, "move", "(IIII)I"⟩
abbrev cX3_run : ByteArray := prog_1_method_9_code
def yX3_run : MethodName := ⟨RX3, "run", "()I"⟩
abbrev cX3_week : ByteArray := prog_1_method_10_code
def yX3_week : MethodName := ⟨RX3, "week", "()I"⟩
abbrev cX3_stock : ByteArray := prog_1_method_11_code
def yX3_stock : MethodName := ⟨RX3, "stock", "(II)I"⟩
abbrev cX3_step : ByteArray := prog_1_method_12_code
def yX3_step : MethodName := ⟨RX3, "step", "(I)I"⟩
abbrev cX3_weeksToWait : ByteArray := prog_1_method_13_code
def yX3_weeksToWait : MethodName := ⟨RX3, "weeksToWait", "(I)I"⟩
abbrev cX3_sold : ByteArray := prog_1_method_14_code
def yX3_sold : MethodName := ⟨RX3, "sold", "(I)I"⟩
abbrev cX3_taken : ByteArray := prog_1_method_15_code
def yX3_taken : MethodName := ⟨RX3, "taken", "()I"⟩
abbrev cX3_wouldSell : ByteArray := prog_1_method_16_code
def yX3_wouldSell : MethodName := ⟨RX3, "wouldSell", "(II)I"⟩
abbrev cX3_best : ByteArray := prog_1_method_17_code
def yX3_best : MethodName := ⟨RX3, "best", "(I)I"⟩
abbrev cX3_bestByAll : ByteArray := prog_1_method_18_code
def yX3_bestByAll : MethodName := ⟨RX3, "bestByAll", "(I)I"⟩
abbrev cX3_planned : ByteArray := prog_1_method_19_code
def yX3_planned : MethodName := ⟨RX3, "planned", "(II)I"⟩
abbrev cX3_bestLeaving : ByteArray := prog_1_method_20_code
def yX3_bestLeaving : MethodName := ⟨RX3, "bestLeaving", "(II)I"⟩
abbrev cX3_requireWithin : ByteArray := prog_1_method_21_code
def yX3_requireWithin : MethodName := ⟨RX3, "requireWithin", "(III)V"⟩
abbrev cX3_requireStep : ByteArray := prog_1_method_22_code
def yX3_requireStep : MethodName := ⟨RX3, "requireStep", "(I)V"⟩
abbrev cX3_requireSize : ByteArray := prog_1_method_23_code
def yX3_requireSize : MethodName := ⟨RX3, "requireSize", "(I)V"⟩
abbrev cX3_requireRoomFor : ByteArray := prog_1_method_24_code
def yX3_requireRoomFor : MethodName := ⟨RX3, "requireRoomFor", "(LMarkdownPlanner$Store;I)V"⟩
abbrev cX3_requireSeasonOn : ByteArray := prog_1_method_25_code
def yX3_requireSeasonOn : MethodName := ⟨RX3, "requireSeasonOn", "()V"⟩
abbrev cX3_storeOf : ByteArray := prog_1_method_26_code
def yX3_storeOf : MethodName := ⟨RX3, "storeOf", "(I)LMarkdownPlanner$Store;"⟩
def RX4 : String := "MarkdownPlannerModel"
def TX4 : u_T := fun k => match k with
  | 0 => ("MarkdownPlannerModel", "weeks", "I", false)
  | 1 => ("MarkdownPlannerModel", "week", "I", false)
  | 2 => ("MarkdownPlannerModel", "price", "[I", true)
  | 3 => ("MarkdownPlannerModel", "demand", "[I", true)
  | 4 => ("MarkdownPlannerModel", "gap", "I", false)
  | 5 => ("MarkdownPlannerModel", "remnant", "I", false)
  | 6 => ("MarkdownPlannerModel", "moving", "I", false)
  | 7 => ("MarkdownPlannerModel", "stock", "[I", true)
  | 8 => ("MarkdownPlannerModel", "step", "[I", true)
  | 9 => ("MarkdownPlannerModel", "last", "[I", true)
  | 10 => ("MarkdownPlannerModel", "sold", "[I", true)
  | 11 => ("MarkdownPlannerModel", "taken", "I", false)
  | 12 => ("MarkdownPlannerModel", "worth", "[I", true)
  | _ => ("MarkdownPlannerModel", "thrown", "I", false)
def tyX4 : Nat → FieldType := fun k => match k with
  | 0 => .int
  | 1 => .int
  | 2 => .array .int
  | 3 => .array .int
  | 4 => .int
  | 5 => .int
  | 6 => .int
  | 7 => .array .int
  | 8 => .array .int
  | 9 => .array .int
  | 10 => .array .int
  | 11 => .int
  | 12 => .array .int
  | _ => .int
abbrev wsX40 : List Cond := u_ws RX4 TX4 14
theorem nmX4 : ∀ a, a < 14 → ∀ b, b < 14 → a ≠ b → (TX4 a).2.1 ≠ (TX4 b).2.1 := by decide +kernel
theorem tyX4_ok : ∀ k, k < 14 → parseFieldDescriptor (TX4 k).2.2.1 = some (tyX4 k) := by decide +kernel
abbrev cX4_init : ByteArray := prog_6_method_1_code
def yX4_init : MethodName := ⟨RX4, "<init>", "()V"⟩
abbrev cX4_thrown : ByteArray := prog_6_method_2_code
def yX4_thrown : MethodName := ⟨RX4, "thrown", "()I"⟩
abbrev cX4_in : ByteArray := prog_6_method_3_code
def yX4_in : MethodName := ⟨RX4, "in", "(III)Z"⟩
abbrev cX4_asked : ByteArray := prog_6_method_4_code
def yX4_asked : MethodName := ⟨RX4, "asked", "(Z)Z"⟩
abbrev cX4_asked_ : ByteArray := prog_6_method_5_code
def yX4_asked_ : MethodName := ⟨RX4, "asked", "(ZZ)Z"⟩
abbrev cX4_told : ByteArray := prog_6_method_6_code
def yX4_told : MethodName := ⟨RX4, "told", "(I)I"⟩
abbrev cX4_isStore : ByteArray := prog_6_method_7_code
def yX4_isStore : MethodName := ⟨RX4, "isStore", "(I)Z"⟩
abbrev cX4_isSize : ByteArray := prog_6_method_8_code
def yX4_isSize : MethodName := ⟨RX4, "isSize", "(I)Z"⟩
abbrev cX4_isStep : ByteArray := prog_6_method_9_code
def yX4_isStep : MethodName := ⟨RX4, "isStep", "(I)Z"⟩
abbrev cX4_whole : ByteArray := prog_6_method_10_code
def yX4_whole : MethodName := ⟨RX4, "whole", "(I)I"⟩
abbrev cX4_begin : ByteArray := prog_6_method_11_code
def yX4_begin : MethodName := ⟨RX4, "begin", "(I)I"⟩
abbrev cX4_setPrice : ByteArray := prog_6_method_12_code
def yX4_setPrice : MethodName := ⟨RX4, "setPrice", "(II)I"⟩
abbrev cX4_setDemand : ByteArray := prog_6_method_13_code
def yX4_setDemand : MethodName := ⟨RX4, "setDemand", "(III)I"⟩
abbrev cX4_setRules : ByteArray := prog_6_method_14_code
def yX4_setRules : MethodName := ⟨RX4, "setRules", "(III)V"⟩
abbrev cX4_put : ByteArray := prog_6_method_15_code
def yX4_put : MethodName := ⟨RX4, "put", "(III)I"⟩
abbrev cX4_waits : ByteArray := prog_6_method_16_code
def yX4_waits : MethodName := ⟨RX4, "waits", "(I)I"⟩
abbrev cX4_markDown : ByteArray := prog_6_method_17_code
def yX4_markDown : MethodName := ⟨RX4, "markDown", "(II)I"⟩
abbrev cX4_move : ByteArray := prog_6_method_18_code
def yX4_move : MethodName := ⟨RX4, "move", "(IIII)I"⟩
abbrev cX4_sells : ByteArray := prog_6_method_19_code
def yX4_sells : MethodName := ⟨RX4, "sells", "(II)I"⟩
abbrev cX4_run : ByteArray := prog_6_method_20_code
def yX4_run : MethodName := ⟨RX4, "run", "()I"⟩
abbrev cX4_week : ByteArray := prog_6_method_21_code
def yX4_week : MethodName := ⟨RX4, "week", "()I"⟩
abbrev cX4_stock : ByteArray := prog_6_method_22_code
def yX4_stock : MethodName := ⟨RX4, "stock", "(II)I"⟩
abbrev cX4_step : ByteArray := prog_6_method_23_code
def yX4_step : MethodName := ⟨RX4, "step", "(I)I"⟩
abbrev cX4_weeksToWait : ByteArray := prog_6_method_24_code
def yX4_weeksToWait : MethodName := ⟨RX4, "weeksToWait", "(I)I"⟩
abbrev cX4_sold : ByteArray := prog_6_method_25_code
def yX4_sold : MethodName := ⟨RX4, "sold", "(I)I"⟩
abbrev cX4_taken : ByteArray := prog_6_method_26_code
def yX4_taken : MethodName := ⟨RX4, "taken", "()I"⟩
abbrev cX4_wouldSell : ByteArray := prog_6_method_27_code
def yX4_wouldSell : MethodName := ⟨RX4, "wouldSell", "(II)I"⟩
abbrev cX4_at : ByteArray := prog_6_method_28_code
def yX4_at : MethodName := ⟨RX4, "at", "(IIII)I"⟩
abbrev cX4_worthOf : ByteArray := prog_6_method_29_code
def yX4_worthOf : MethodName := ⟨RX4, "worthOf", "(IIIIII)I"⟩
abbrev cX4_finds : ByteArray := prog_6_method_30_code
def yX4_finds : MethodName := ⟨RX4, "finds", "(II)I"⟩
abbrev cX4_best : ByteArray := prog_6_method_31_code
def yX4_best : MethodName := ⟨RX4, "best", "(I)I"⟩
abbrev cX4_bestByAll : ByteArray := prog_6_method_32_code
def yX4_bestByAll : MethodName := ⟨RX4, "bestByAll", "(I)I"⟩
abbrev cX4_planned : ByteArray := prog_6_method_33_code
def yX4_planned : MethodName := ⟨RX4, "planned", "(II)I"⟩
abbrev cX4_bestLeaving : ByteArray := prog_6_method_34_code
def yX4_bestLeaving : MethodName := ⟨RX4, "bestLeaving", "(II)I"⟩
def RJ9 : String := "java/lang/Math"
def TJ9 : u_T := fun k => match k with
  | _ => ("", "", "", false)
def tyJ9 : Nat → FieldType := fun k => match k with
  | _ => .int
abbrev wsJ90 : List Cond := u_ws RJ9 TJ9 0
theorem nmJ9 : ∀ a, a < 0 → ∀ b, b < 0 → a ≠ b → (TJ9 a).2.1 ≠ (TJ9 b).2.1 := by decide +kernel
theorem tyJ9_ok : ∀ k, k < 0 → parseFieldDescriptor (TJ9 k).2.2.1 = some (tyJ9 k) := by decide +kernel
abbrev cJ9_max_7cf53 : ByteArray := prog_10_method_65_code
def yJ9_max_7cf53 : MethodName := ⟨RJ9, "max", "(II)I"⟩
abbrev cJ9_min_7cf53 : ByteArray := prog_10_method_69_code
def yJ9_min_7cf53 : MethodName := ⟨RJ9, "min", "(II)I"⟩
def RJ0 : String := "java/lang/String"
def TJ0 : u_T := fun k => match k with
  | _ => ("", "", "", false)
def tyJ0 : Nat → FieldType := fun k => match k with
  | _ => .int
abbrev wsJ00 : List Cond := u_ws RJ0 TJ0 0
theorem nmJ0 : ∀ a, a < 0 → ∀ b, b < 0 → a ≠ b → (TJ0 a).2.1 ≠ (TJ0 b).2.1 := by decide +kernel
theorem tyJ0_ok : ∀ k, k < 0 → parseFieldDescriptor (TJ0 k).2.2.1 = some (tyJ0 k) := by decide +kernel
def RJ10 : String := "java/lang/System"
def TJ10 : u_T := fun k => match k with
  | _ => ("", "", "", false)
def tyJ10 : Nat → FieldType := fun k => match k with
  | _ => .int
abbrev wsJ100 : List Cond := u_ws RJ10 TJ10 0
theorem nmJ10 : ∀ a, a < 0 → ∀ b, b < 0 → a ≠ b → (TJ10 a).2.1 ≠ (TJ10 b).2.1 := by decide +kernel
theorem tyJ10_ok : ∀ k, k < 0 → parseFieldDescriptor (TJ10 k).2.2.1 = some (tyJ10 k) := by decide +kernel
def RL : String := "MarkdownPlannerLaw"
abbrev cL_begin : ByteArray := method_3_code
def yL_begin : MethodName := ⟨RL, "begin", "(LMarkdownPlanner;I[J)I"⟩
abbrev cL_setPrice : ByteArray := method_4_code
def yL_setPrice : MethodName := ⟨RL, "setPrice", "(LMarkdownPlanner;II[J)I"⟩
abbrev cL_setDemand : ByteArray := method_5_code
def yL_setDemand : MethodName := ⟨RL, "setDemand", "(LMarkdownPlanner;III[J)I"⟩
abbrev cL_setRules : ByteArray := method_6_code
def yL_setRules : MethodName := ⟨RL, "setRules", "(LMarkdownPlanner;III)I"⟩
abbrev cL_put : ByteArray := method_7_code
def yL_put : MethodName := ⟨RL, "put", "(LMarkdownPlanner;III[J)I"⟩
abbrev cL_markDown : ByteArray := method_8_code
def yL_markDown : MethodName := ⟨RL, "markDown", "(LMarkdownPlanner;II[J)I"⟩
abbrev cL_move : ByteArray := method_9_code
def yL_move : MethodName := ⟨RL, "move", "(LMarkdownPlanner;IIII[J)I"⟩
abbrev cL_run : ByteArray := method_10_code
def yL_run : MethodName := ⟨RL, "run", "(LMarkdownPlanner;[J)I"⟩
abbrev cL_stock : ByteArray := method_11_code
def yL_stock : MethodName := ⟨RL, "stock", "(LMarkdownPlanner;II[J)I"⟩
abbrev cL_step : ByteArray := method_12_code
def yL_step : MethodName := ⟨RL, "step", "(LMarkdownPlanner;I[J)I"⟩
abbrev cL_weeksToWait : ByteArray := method_13_code
def yL_weeksToWait : MethodName := ⟨RL, "weeksToWait", "(LMarkdownPlanner;I[J)I"⟩
abbrev cL_sold : ByteArray := method_14_code
def yL_sold : MethodName := ⟨RL, "sold", "(LMarkdownPlanner;I[J)I"⟩
abbrev cL_wouldSell : ByteArray := method_15_code
def yL_wouldSell : MethodName := ⟨RL, "wouldSell", "(LMarkdownPlanner;II[J)I"⟩
abbrev cL_best : ByteArray := method_16_code
def yL_best : MethodName := ⟨RL, "best", "(LMarkdownPlanner;I[J)I"⟩
abbrev cL_bestByAll : ByteArray := method_17_code
def yL_bestByAll : MethodName := ⟨RL, "bestByAll", "(LMarkdownPlanner;I[J)I"⟩
abbrev cL_planned : ByteArray := method_18_code
def yL_planned : MethodName := ⟨RL, "planned", "(LMarkdownPlanner;II[J)I"⟩
abbrev cL_bestLeaving : ByteArray := method_19_code
def yL_bestLeaving : MethodName := ⟨RL, "bestLeaving", "(LMarkdownPlanner;II[J)I"⟩
abbrev cL_law : ByteArray := code
def yL_law : MethodName := ⟨RL, "law", "([I)Z"⟩
def wsX0_init : List Cond := .code yX0_init cX0_init 1 none :: ([.methodLink RX0 3 objectInit, .instanceMethod objectInit, .code objectInit ⟨#[0xb1]⟩ 1 none, .arrayClass .int, .fieldLink RX0 9 "MarkdownPlanner$Plans" "prices" "[I", .fieldLink RX0 15 "MarkdownPlanner$Plans" "demands" "[I", .fieldLink RX0 18 "MarkdownPlanner$Plans" "worths" "[I", .fieldLink RX0 21 "MarkdownPlanner$Plans" "ladder" "[I"] ++ wsX00)
def wsX2_waitFrom : List Cond := .code yX2_waitFrom cX2_waitFrom 3 (some .int) :: ([.fieldLink RX2 18 "MarkdownPlanner$Store" "markedDownIn" "I", .methodLink RX2 28 Lib.Math.max.name, .static Lib.Math.max.name, .initialized "java/lang/Math", .code Lib.Math.max.name Lib.Math.max.code 2 (some .int)] ++ wsX20)
def wsX2_wholeStock : List Cond := .code yX2_wholeStock cX2_wholeStock 3 (some .int) :: ([.fieldLink RX2 15 "MarkdownPlanner$Store" "pieces" "[I"] ++ wsX20)
def wsX0_lookAt_r1 : List Cond := [Cond.fieldLink RX0 9 "MarkdownPlanner$Plans" "prices" "[I", Cond.methodLink RX0 27 arraycopyName, Cond.native arraycopyName, Cond.static arraycopyName, Cond.initialized "java/lang/System", Cond.fieldLink RX0 15 "MarkdownPlanner$Plans" "demands" "[I", Cond.fieldLink RX0 40 "MarkdownPlanner$Plans" "firstWeek" "I", Cond.fieldLink RX0 46 "MarkdownPlanner$Plans" "endWeek" "I", Cond.fieldLink RX0 52 "MarkdownPlanner$Plans" "gap" "I", Cond.fieldLink RX0 56 "MarkdownPlanner$Plans" "remnant" "I", Cond.methodLink RX0 61 Lib.Math.min.name, Cond.static Lib.Math.min.name, Cond.initialized "java/lang/Math", Cond.code Lib.Math.min.name Lib.Math.min.code 2 (some .int), Cond.fieldLink RX0 66 "MarkdownPlanner$Plans" "freeWeek" "I", Cond.fieldLink RX0 72 "MarkdownPlanner$Plans" "ownStep" "I", Cond.fieldLink RX0 79 "MarkdownPlanner$Plans" "ownStock" "I", Cond.instanceMethod yX2_waitFrom, Cond.initialized RX2, Cond.selects RX2 yX2_waitFrom yX2_waitFrom, Cond.code yX2_waitFrom cX2_waitFrom 3 (some .int), Cond.fieldLink RX2 18 "MarkdownPlanner$Store" "markedDownIn" "I", Cond.methodLink RX2 28 Lib.Math.max.name, Cond.static Lib.Math.max.name]
def wsX0_lookAt_r2 : List Cond := [Cond.code Lib.Math.max.name Lib.Math.max.code 2 (some .int), Cond.instanceMethod yX2_wholeStock, Cond.selects RX2 yX2_wholeStock yX2_wholeStock, Cond.code yX2_wholeStock cX2_wholeStock 3 (some .int), Cond.fieldLink RX2 15 "MarkdownPlanner$Store" "pieces" "[I"]
def wsX0_lookAt : List Cond := .code yX0_lookAt cX0_lookAt 3 none :: ((wsX0_lookAt_r1 ++ wsX0_lookAt_r2) ++ wsX10 ++ wsX00 ++ wsX20)
def wsX0_placeOf : List Cond := .code yX0_placeOf cX0_placeOf 3 (some .int) :: ([])
def wsX0_worthFrom : List Cond := .code yX0_worthFrom cX0_worthFrom 4 (some .int) :: ([.fieldLink RX0 46 "MarkdownPlanner$Plans" "endWeek" "I", .fieldLink RX0 18 "MarkdownPlanner$Plans" "worths" "[I", .fieldLink RX0 94 "MarkdownPlanner$Plans" "mostLeft" "I", .fieldLink RX0 56 "MarkdownPlanner$Plans" "remnant" "I", .methodLink RX0 97 yX0_placeOf, .static yX0_placeOf, .initialized RX0, .code yX0_placeOf cX0_placeOf 3 (some .int)] ++ wsX00)
def wsX0_worthOfKeeping : List Cond := .code yX0_worthOfKeeping cX0_worthOfKeeping 8 (some .int) :: ([.fieldLink RX0 46 "MarkdownPlanner$Plans" "endWeek" "I", .methodLink RX0 61 Lib.Math.min.name, .static Lib.Math.min.name, .initialized "java/lang/Math", .code Lib.Math.min.name Lib.Math.min.code 2 (some .int), .fieldLink RX0 15 "MarkdownPlanner$Plans" "demands" "[I", .fieldLink RX0 9 "MarkdownPlanner$Plans" "prices" "[I", .methodLink RX0 109 yX0_worthFrom, .instanceMethod yX0_worthFrom, .selects RX0 yX0_worthFrom yX0_worthFrom, .initialized RX0, .code yX0_worthFrom cX0_worthFrom 4 (some .int), .fieldLink RX0 18 "MarkdownPlanner$Plans" "worths" "[I", .fieldLink RX0 94 "MarkdownPlanner$Plans" "mostLeft" "I", .fieldLink RX0 56 "MarkdownPlanner$Plans" "remnant" "I", .methodLink RX0 97 yX0_placeOf, .static yX0_placeOf, .code yX0_placeOf cX0_placeOf 3 (some .int)] ++ wsX00)
def wsX0_worthOfTaking : List Cond := .code yX0_worthOfTaking cX0_worthOfTaking 5 (some .int) :: ([.fieldLink RX0 52 "MarkdownPlanner$Plans" "gap" "I", .methodLink RX0 86 yX0_worthOfKeeping, .instanceMethod yX0_worthOfKeeping, .selects RX0 yX0_worthOfKeeping yX0_worthOfKeeping, .initialized RX0, .code yX0_worthOfKeeping cX0_worthOfKeeping 8 (some .int), .fieldLink RX0 46 "MarkdownPlanner$Plans" "endWeek" "I", .methodLink RX0 61 Lib.Math.min.name, .static Lib.Math.min.name, .initialized "java/lang/Math", .code Lib.Math.min.name Lib.Math.min.code 2 (some .int), .fieldLink RX0 15 "MarkdownPlanner$Plans" "demands" "[I", .fieldLink RX0 9 "MarkdownPlanner$Plans" "prices" "[I", .methodLink RX0 109 yX0_worthFrom, .instanceMethod yX0_worthFrom, .selects RX0 yX0_worthFrom yX0_worthFrom, .code yX0_worthFrom cX0_worthFrom 4 (some .int), .fieldLink RX0 18 "MarkdownPlanner$Plans" "worths" "[I", .fieldLink RX0 94 "MarkdownPlanner$Plans" "mostLeft" "I", .fieldLink RX0 56 "MarkdownPlanner$Plans" "remnant" "I", .methodLink RX0 97 yX0_placeOf, .static yX0_placeOf, .code yX0_placeOf cX0_placeOf 3 (some .int)] ++ wsX00)
def wsX0_worthOfChoosing_r1 : List Cond := [Cond.methodLink RX0 106 Lib.Math.max.name, Cond.static Lib.Math.max.name, Cond.initialized "java/lang/Math", Cond.code Lib.Math.max.name Lib.Math.max.code 2 (some .int), Cond.methodLink RX0 103 yX0_worthOfTaking, Cond.instanceMethod yX0_worthOfTaking, Cond.selects RX0 yX0_worthOfTaking yX0_worthOfTaking, Cond.initialized RX0, Cond.code yX0_worthOfTaking cX0_worthOfTaking 5 (some .int), Cond.fieldLink RX0 52 "MarkdownPlanner$Plans" "gap" "I", Cond.methodLink RX0 86 yX0_worthOfKeeping, Cond.instanceMethod yX0_worthOfKeeping, Cond.selects RX0 yX0_worthOfKeeping yX0_worthOfKeeping, Cond.code yX0_worthOfKeeping cX0_worthOfKeeping 8 (some .int), Cond.fieldLink RX0 46 "MarkdownPlanner$Plans" "endWeek" "I", Cond.methodLink RX0 61 Lib.Math.min.name, Cond.static Lib.Math.min.name, Cond.code Lib.Math.min.name Lib.Math.min.code 2 (some .int), Cond.fieldLink RX0 15 "MarkdownPlanner$Plans" "demands" "[I", Cond.fieldLink RX0 9 "MarkdownPlanner$Plans" "prices" "[I", Cond.methodLink RX0 109 yX0_worthFrom, Cond.instanceMethod yX0_worthFrom, Cond.selects RX0 yX0_worthFrom yX0_worthFrom, Cond.code yX0_worthFrom cX0_worthFrom 4 (some .int)]
def wsX0_worthOfChoosing_r2 : List Cond := [Cond.fieldLink RX0 18 "MarkdownPlanner$Plans" "worths" "[I", Cond.fieldLink RX0 94 "MarkdownPlanner$Plans" "mostLeft" "I", Cond.fieldLink RX0 56 "MarkdownPlanner$Plans" "remnant" "I", Cond.methodLink RX0 97 yX0_placeOf, Cond.static yX0_placeOf, Cond.code yX0_placeOf cX0_placeOf 3 (some .int)]
def wsX0_worthOfChoosing : List Cond := .code yX0_worthOfChoosing cX0_worthOfChoosing 6 (some .int) :: ((wsX0_worthOfChoosing_r1 ++ wsX0_worthOfChoosing_r2) ++ wsX00)
def wsX0_tellWorths_r1 : List Cond := [Cond.fieldLink RX0 94 "MarkdownPlanner$Plans" "mostLeft" "I", Cond.fieldLink RX0 46 "MarkdownPlanner$Plans" "endWeek" "I", Cond.fieldLink RX0 66 "MarkdownPlanner$Plans" "freeWeek" "I", Cond.fieldLink RX0 72 "MarkdownPlanner$Plans" "ownStep" "I", Cond.fieldLink RX0 79 "MarkdownPlanner$Plans" "ownStock" "I", Cond.fieldLink RX0 18 "MarkdownPlanner$Plans" "worths" "[I", Cond.methodLink RX0 97 yX0_placeOf, Cond.static yX0_placeOf, Cond.initialized RX0, Cond.code yX0_placeOf cX0_placeOf 3 (some .int), Cond.methodLink RX0 100 yX0_worthOfChoosing, Cond.instanceMethod yX0_worthOfChoosing, Cond.selects RX0 yX0_worthOfChoosing yX0_worthOfChoosing, Cond.code yX0_worthOfChoosing cX0_worthOfChoosing 6 (some .int), Cond.methodLink RX0 106 Lib.Math.max.name, Cond.static Lib.Math.max.name, Cond.initialized "java/lang/Math", Cond.code Lib.Math.max.name Lib.Math.max.code 2 (some .int), Cond.methodLink RX0 103 yX0_worthOfTaking, Cond.instanceMethod yX0_worthOfTaking, Cond.selects RX0 yX0_worthOfTaking yX0_worthOfTaking, Cond.code yX0_worthOfTaking cX0_worthOfTaking 5 (some .int), Cond.fieldLink RX0 52 "MarkdownPlanner$Plans" "gap" "I", Cond.methodLink RX0 86 yX0_worthOfKeeping]
def wsX0_tellWorths_r2 : List Cond := [Cond.instanceMethod yX0_worthOfKeeping, Cond.selects RX0 yX0_worthOfKeeping yX0_worthOfKeeping, Cond.code yX0_worthOfKeeping cX0_worthOfKeeping 8 (some .int), Cond.methodLink RX0 61 Lib.Math.min.name, Cond.static Lib.Math.min.name, Cond.code Lib.Math.min.name Lib.Math.min.code 2 (some .int), Cond.fieldLink RX0 15 "MarkdownPlanner$Plans" "demands" "[I", Cond.fieldLink RX0 9 "MarkdownPlanner$Plans" "prices" "[I", Cond.methodLink RX0 109 yX0_worthFrom, Cond.instanceMethod yX0_worthFrom, Cond.selects RX0 yX0_worthFrom yX0_worthFrom, Cond.code yX0_worthFrom cX0_worthFrom 4 (some .int), Cond.fieldLink RX0 56 "MarkdownPlanner$Plans" "remnant" "I"]
def wsX0_tellWorths : List Cond := .code yX0_tellWorths cX0_tellWorths 5 none :: ((wsX0_tellWorths_r1 ++ wsX0_tellWorths_r2) ++ wsX00)
def wsX0_greatestWorth_r1 : List Cond := [Cond.fieldLink RX0 40 "MarkdownPlanner$Plans" "firstWeek" "I", Cond.fieldLink RX0 72 "MarkdownPlanner$Plans" "ownStep" "I", Cond.fieldLink RX0 66 "MarkdownPlanner$Plans" "freeWeek" "I", Cond.fieldLink RX0 79 "MarkdownPlanner$Plans" "ownStock" "I", Cond.methodLink RX0 82 yX0_tellWorths, Cond.instanceMethod yX0_tellWorths, Cond.selects RX0 yX0_tellWorths yX0_tellWorths, Cond.initialized RX0, Cond.code yX0_tellWorths cX0_tellWorths 5 none, Cond.fieldLink RX0 94 "MarkdownPlanner$Plans" "mostLeft" "I", Cond.fieldLink RX0 46 "MarkdownPlanner$Plans" "endWeek" "I", Cond.fieldLink RX0 18 "MarkdownPlanner$Plans" "worths" "[I", Cond.methodLink RX0 97 yX0_placeOf, Cond.static yX0_placeOf, Cond.code yX0_placeOf cX0_placeOf 3 (some .int), Cond.methodLink RX0 100 yX0_worthOfChoosing, Cond.instanceMethod yX0_worthOfChoosing, Cond.selects RX0 yX0_worthOfChoosing yX0_worthOfChoosing, Cond.code yX0_worthOfChoosing cX0_worthOfChoosing 6 (some .int), Cond.methodLink RX0 106 Lib.Math.max.name, Cond.static Lib.Math.max.name, Cond.initialized "java/lang/Math", Cond.code Lib.Math.max.name Lib.Math.max.code 2 (some .int), Cond.methodLink RX0 103 yX0_worthOfTaking]
def wsX0_greatestWorth_r2 : List Cond := [Cond.instanceMethod yX0_worthOfTaking, Cond.selects RX0 yX0_worthOfTaking yX0_worthOfTaking, Cond.code yX0_worthOfTaking cX0_worthOfTaking 5 (some .int), Cond.fieldLink RX0 52 "MarkdownPlanner$Plans" "gap" "I", Cond.methodLink RX0 86 yX0_worthOfKeeping, Cond.instanceMethod yX0_worthOfKeeping, Cond.selects RX0 yX0_worthOfKeeping yX0_worthOfKeeping, Cond.code yX0_worthOfKeeping cX0_worthOfKeeping 8 (some .int), Cond.methodLink RX0 61 Lib.Math.min.name, Cond.static Lib.Math.min.name, Cond.code Lib.Math.min.name Lib.Math.min.code 2 (some .int), Cond.fieldLink RX0 15 "MarkdownPlanner$Plans" "demands" "[I", Cond.fieldLink RX0 9 "MarkdownPlanner$Plans" "prices" "[I", Cond.methodLink RX0 109 yX0_worthFrom, Cond.instanceMethod yX0_worthFrom, Cond.selects RX0 yX0_worthFrom yX0_worthFrom, Cond.code yX0_worthFrom cX0_worthFrom 4 (some .int), Cond.fieldLink RX0 56 "MarkdownPlanner$Plans" "remnant" "I"]
def wsX0_greatestWorth : List Cond := .code yX0_greatestWorth cX0_greatestWorth 2 (some .int) :: ((wsX0_greatestWorth_r1 ++ wsX0_greatestWorth_r2) ++ wsX00)
def wsX0_lowestBestStep_r1 : List Cond := [Cond.methodLink RX0 109 yX0_worthFrom, Cond.instanceMethod yX0_worthFrom, Cond.selects RX0 yX0_worthFrom yX0_worthFrom, Cond.initialized RX0, Cond.code yX0_worthFrom cX0_worthFrom 4 (some .int), Cond.fieldLink RX0 46 "MarkdownPlanner$Plans" "endWeek" "I", Cond.fieldLink RX0 18 "MarkdownPlanner$Plans" "worths" "[I", Cond.fieldLink RX0 94 "MarkdownPlanner$Plans" "mostLeft" "I", Cond.fieldLink RX0 56 "MarkdownPlanner$Plans" "remnant" "I", Cond.methodLink RX0 97 yX0_placeOf, Cond.static yX0_placeOf, Cond.code yX0_placeOf cX0_placeOf 3 (some .int), Cond.methodLink RX0 103 yX0_worthOfTaking, Cond.instanceMethod yX0_worthOfTaking, Cond.selects RX0 yX0_worthOfTaking yX0_worthOfTaking, Cond.code yX0_worthOfTaking cX0_worthOfTaking 5 (some .int), Cond.fieldLink RX0 52 "MarkdownPlanner$Plans" "gap" "I", Cond.methodLink RX0 86 yX0_worthOfKeeping, Cond.instanceMethod yX0_worthOfKeeping, Cond.selects RX0 yX0_worthOfKeeping yX0_worthOfKeeping, Cond.code yX0_worthOfKeeping cX0_worthOfKeeping 8 (some .int), Cond.methodLink RX0 61 Lib.Math.min.name, Cond.static Lib.Math.min.name, Cond.initialized "java/lang/Math"]
def wsX0_lowestBestStep_r2 : List Cond := [Cond.code Lib.Math.min.name Lib.Math.min.code 2 (some .int), Cond.fieldLink RX0 15 "MarkdownPlanner$Plans" "demands" "[I", Cond.fieldLink RX0 9 "MarkdownPlanner$Plans" "prices" "[I"]
def wsX0_lowestBestStep : List Cond := .code yX0_lowestBestStep cX0_lowestBestStep 6 (some .int) :: ((wsX0_lowestBestStep_r1 ++ wsX0_lowestBestStep_r2) ++ wsX00)
def wsX0_bestStepIn_r1 : List Cond := [Cond.fieldLink RX0 72 "MarkdownPlanner$Plans" "ownStep" "I", Cond.fieldLink RX0 79 "MarkdownPlanner$Plans" "ownStock" "I", Cond.fieldLink RX0 66 "MarkdownPlanner$Plans" "freeWeek" "I", Cond.fieldLink RX0 40 "MarkdownPlanner$Plans" "firstWeek" "I", Cond.fieldLink RX0 52 "MarkdownPlanner$Plans" "gap" "I", Cond.fieldLink RX0 15 "MarkdownPlanner$Plans" "demands" "[I", Cond.methodLink RX0 61 Lib.Math.min.name, Cond.static Lib.Math.min.name, Cond.initialized "java/lang/Math", Cond.code Lib.Math.min.name Lib.Math.min.code 2 (some .int), Cond.methodLink RX0 82 yX0_tellWorths, Cond.instanceMethod yX0_tellWorths, Cond.selects RX0 yX0_tellWorths yX0_tellWorths, Cond.initialized RX0, Cond.code yX0_tellWorths cX0_tellWorths 5 none, Cond.fieldLink RX0 94 "MarkdownPlanner$Plans" "mostLeft" "I", Cond.fieldLink RX0 46 "MarkdownPlanner$Plans" "endWeek" "I", Cond.fieldLink RX0 18 "MarkdownPlanner$Plans" "worths" "[I", Cond.methodLink RX0 97 yX0_placeOf, Cond.static yX0_placeOf, Cond.code yX0_placeOf cX0_placeOf 3 (some .int), Cond.methodLink RX0 100 yX0_worthOfChoosing, Cond.instanceMethod yX0_worthOfChoosing, Cond.selects RX0 yX0_worthOfChoosing yX0_worthOfChoosing]
def wsX0_bestStepIn_r2 : List Cond := [Cond.code yX0_worthOfChoosing cX0_worthOfChoosing 6 (some .int), Cond.methodLink RX0 106 Lib.Math.max.name, Cond.static Lib.Math.max.name, Cond.code Lib.Math.max.name Lib.Math.max.code 2 (some .int), Cond.methodLink RX0 103 yX0_worthOfTaking, Cond.instanceMethod yX0_worthOfTaking, Cond.selects RX0 yX0_worthOfTaking yX0_worthOfTaking, Cond.code yX0_worthOfTaking cX0_worthOfTaking 5 (some .int), Cond.methodLink RX0 86 yX0_worthOfKeeping, Cond.instanceMethod yX0_worthOfKeeping, Cond.selects RX0 yX0_worthOfKeeping yX0_worthOfKeeping, Cond.code yX0_worthOfKeeping cX0_worthOfKeeping 8 (some .int), Cond.fieldLink RX0 9 "MarkdownPlanner$Plans" "prices" "[I", Cond.methodLink RX0 109 yX0_worthFrom, Cond.instanceMethod yX0_worthFrom, Cond.selects RX0 yX0_worthFrom yX0_worthFrom, Cond.code yX0_worthFrom cX0_worthFrom 4 (some .int), Cond.fieldLink RX0 56 "MarkdownPlanner$Plans" "remnant" "I", Cond.methodLink RX0 90 yX0_lowestBestStep, Cond.instanceMethod yX0_lowestBestStep, Cond.selects RX0 yX0_lowestBestStep yX0_lowestBestStep, Cond.code yX0_lowestBestStep cX0_lowestBestStep 6 (some .int)]
def wsX0_bestStepIn : List Cond := .code yX0_bestStepIn cX0_bestStepIn 7 (some .int) :: ((wsX0_bestStepIn_r1 ++ wsX0_bestStepIn_r2) ++ wsX00)
def wsX0_worthOfLadder : List Cond := .code yX0_worthOfLadder cX0_worthOfLadder 9 (some .int) :: ([.fieldLink RX0 72 "MarkdownPlanner$Plans" "ownStep" "I", .fieldLink RX0 79 "MarkdownPlanner$Plans" "ownStock" "I", .fieldLink RX0 66 "MarkdownPlanner$Plans" "freeWeek" "I", .fieldLink RX0 21 "MarkdownPlanner$Plans" "ladder" "[I", .fieldLink RX0 40 "MarkdownPlanner$Plans" "firstWeek" "I", .fieldLink RX0 52 "MarkdownPlanner$Plans" "gap" "I", .fieldLink RX0 15 "MarkdownPlanner$Plans" "demands" "[I", .methodLink RX0 61 Lib.Math.min.name, .static Lib.Math.min.name, .initialized "java/lang/Math", .code Lib.Math.min.name Lib.Math.min.code 2 (some .int), .fieldLink RX0 9 "MarkdownPlanner$Plans" "prices" "[I", .fieldLink RX0 56 "MarkdownPlanner$Plans" "remnant" "I"] ++ wsX00)
def wsX0_turnToNextLadder : List Cond := .code yX0_turnToNextLadder cX0_turnToNextLadder 5 (some .boolean) :: ([.fieldLink RX0 21 "MarkdownPlanner$Plans" "ladder" "[I"] ++ wsX00)
def wsX0_greatestWorthByAll_r1 : List Cond := [Cond.fieldLink RX0 46 "MarkdownPlanner$Plans" "endWeek" "I", Cond.fieldLink RX0 40 "MarkdownPlanner$Plans" "firstWeek" "I", Cond.methodLink RX0 61 Lib.Math.min.name, Cond.static Lib.Math.min.name, Cond.initialized "java/lang/Math", Cond.code Lib.Math.min.name Lib.Math.min.code 2 (some .int), Cond.fieldLink RX0 21 "MarkdownPlanner$Plans" "ladder" "[I", Cond.fieldLink RX0 72 "MarkdownPlanner$Plans" "ownStep" "I", Cond.constant RX0 112 (1000000), Cond.methodLink RX0 106 Lib.Math.max.name, Cond.static Lib.Math.max.name, Cond.code Lib.Math.max.name Lib.Math.max.code 2 (some .int), Cond.methodLink RX0 113 yX0_worthOfLadder, Cond.instanceMethod yX0_worthOfLadder, Cond.selects RX0 yX0_worthOfLadder yX0_worthOfLadder, Cond.initialized RX0, Cond.code yX0_worthOfLadder cX0_worthOfLadder 9 (some .int), Cond.fieldLink RX0 79 "MarkdownPlanner$Plans" "ownStock" "I", Cond.fieldLink RX0 66 "MarkdownPlanner$Plans" "freeWeek" "I", Cond.fieldLink RX0 52 "MarkdownPlanner$Plans" "gap" "I", Cond.fieldLink RX0 15 "MarkdownPlanner$Plans" "demands" "[I", Cond.fieldLink RX0 9 "MarkdownPlanner$Plans" "prices" "[I", Cond.fieldLink RX0 56 "MarkdownPlanner$Plans" "remnant" "I", Cond.methodLink RX0 117 yX0_turnToNextLadder]
def wsX0_greatestWorthByAll_r2 : List Cond := [Cond.instanceMethod yX0_turnToNextLadder, Cond.selects RX0 yX0_turnToNextLadder yX0_turnToNextLadder, Cond.code yX0_turnToNextLadder cX0_turnToNextLadder 5 (some .boolean)]
def wsX0_greatestWorthByAll : List Cond := .code yX0_greatestWorthByAll cX0_greatestWorthByAll 5 (some .int) :: ((wsX0_greatestWorthByAll_r1 ++ wsX0_greatestWorthByAll_r2) ++ wsX00)
def wsX1_init : List Cond := .code yX1_init cX1_init 2 none :: ([.methodLink RX1 3 objectInit, .instanceMethod objectInit, .code objectInit ⟨#[0xb1]⟩ 1 none, .arrayClass .int, .fieldLink RX1 9 "MarkdownPlanner$Season" "prices" "[I", .fieldLink RX1 15 "MarkdownPlanner$Season" "weeks" "I", .fieldLink RX1 19 "MarkdownPlanner$Season" "gap" "I"] ++ wsX10)
def wsX1_startAnew : List Cond := .code yX1_startAnew cX1_startAnew 2 none :: ([.fieldLink RX1 15 "MarkdownPlanner$Season" "weeks" "I", .fieldLink RX1 22 "MarkdownPlanner$Season" "week" "I", .fieldLink RX1 25 "MarkdownPlanner$Season" "taken" "I"] ++ wsX10)
def wsX1_keepsLadderDown : List Cond := .code yX1_keepsLadderDown cX1_keepsLadderDown 5 (some .boolean) :: ([.fieldLink RX1 9 "MarkdownPlanner$Season" "prices" "[I"] ++ wsX10)
def wsX2_init : List Cond := .code yX2_init cX2_init 1 none :: ([.methodLink RX2 3 objectInit, .instanceMethod objectInit, .code objectInit ⟨#[0xb1]⟩ 1 none, .arrayClass .int, .fieldLink RX2 9 "MarkdownPlanner$Store" "demands" "[I", .fieldLink RX2 15 "MarkdownPlanner$Store" "pieces" "[I", .fieldLink RX2 18 "MarkdownPlanner$Store" "markedDownIn" "I"] ++ wsX20)
def wsX2_startAnew : List Cond := .code yX2_startAnew cX2_startAnew 1 none :: ([.fieldLink RX2 22 "MarkdownPlanner$Store" "step" "I", .fieldLink RX2 18 "MarkdownPlanner$Store" "markedDownIn" "I", .fieldLink RX2 25 "MarkdownPlanner$Store" "piecesSold" "I"] ++ wsX20)
def wsX2_sizesInStock : List Cond := .code yX2_sizesInStock cX2_sizesInStock 3 (some .int) :: ([.fieldLink RX2 15 "MarkdownPlanner$Store" "pieces" "[I"] ++ wsX20)
def wsX2_salesAt : List Cond := .code yX2_salesAt cX2_salesAt 2 (some .int) :: ([.fieldLink RX2 9 "MarkdownPlanner$Store" "demands" "[I", .methodLink RX2 41 Lib.Math.min.name, .static Lib.Math.min.name, .initialized "java/lang/Math", .code Lib.Math.min.name Lib.Math.min.code 2 (some .int), .methodLink RX2 34 yX2_sizesInStock, .instanceMethod yX2_sizesInStock, .selects RX2 yX2_sizesInStock yX2_sizesInStock, .initialized RX2, .code yX2_sizesInStock cX2_sizesInStock 3 (some .int), .fieldLink RX2 15 "MarkdownPlanner$Store" "pieces" "[I", .methodLink RX2 38 yX2_wholeStock, .instanceMethod yX2_wholeStock, .selects RX2 yX2_wholeStock yX2_wholeStock, .code yX2_wholeStock cX2_wholeStock 3 (some .int)] ++ wsX20)
def wsX2_fullestSize : List Cond := .code yX2_fullestSize cX2_fullestSize 3 (some .int) :: ([.fieldLink RX2 15 "MarkdownPlanner$Store" "pieces" "[I"] ++ wsX20)
def wsX2_sellForAWeek_r1 : List Cond := [Cond.fieldLink RX2 22 "MarkdownPlanner$Store" "step" "I", Cond.fieldLink RX2 15 "MarkdownPlanner$Store" "pieces" "[I", Cond.fieldLink RX2 25 "MarkdownPlanner$Store" "piecesSold" "I", Cond.methodLink RX2 44 yX2_salesAt, Cond.instanceMethod yX2_salesAt, Cond.selects RX2 yX2_salesAt yX2_salesAt, Cond.initialized RX2, Cond.code yX2_salesAt cX2_salesAt 2 (some .int), Cond.fieldLink RX2 9 "MarkdownPlanner$Store" "demands" "[I", Cond.methodLink RX2 41 Lib.Math.min.name, Cond.static Lib.Math.min.name, Cond.initialized "java/lang/Math", Cond.code Lib.Math.min.name Lib.Math.min.code 2 (some .int), Cond.methodLink RX2 34 yX2_sizesInStock, Cond.instanceMethod yX2_sizesInStock, Cond.selects RX2 yX2_sizesInStock yX2_sizesInStock, Cond.code yX2_sizesInStock cX2_sizesInStock 3 (some .int), Cond.methodLink RX2 38 yX2_wholeStock, Cond.instanceMethod yX2_wholeStock, Cond.selects RX2 yX2_wholeStock yX2_wholeStock, Cond.code yX2_wholeStock cX2_wholeStock 3 (some .int), Cond.methodLink RX2 48 yX2_fullestSize, Cond.instanceMethod yX2_fullestSize, Cond.selects RX2 yX2_fullestSize yX2_fullestSize]
def wsX2_sellForAWeek_r2 : List Cond := [Cond.code yX2_fullestSize cX2_fullestSize 3 (some .int)]
def wsX2_sellForAWeek : List Cond := .code yX2_sellForAWeek cX2_sellForAWeek 3 (some .int) :: ((wsX2_sellForAWeek_r1 ++ wsX2_sellForAWeek_r2) ++ wsX20)
def wsX3_init_r1 : List Cond := [Cond.methodLink RX3 3 objectInit, Cond.instanceMethod objectInit, Cond.code objectInit ⟨#[0xb1]⟩ 1 none, Cond.classLink RX3 9 RX1, Cond.instantiable RX1 7, Cond.initialized RX1, Cond.fieldLink RX3 12 "MarkdownPlanner" "season" "LMarkdownPlanner$Season;", Cond.classLink RX3 16 RX2, Cond.fieldLink RX3 18 "MarkdownPlanner" "stores" "[LMarkdownPlanner$Store;", Cond.classLink RX3 22 RX0, Cond.instantiable RX0 12, Cond.initialized RX0, Cond.fieldLink RX3 25 "MarkdownPlanner" "plans" "LMarkdownPlanner$Plans;", Cond.instantiable RX2 5, Cond.initialized RX2, Cond.instanceMethod yX1_init, Cond.code yX1_init cX1_init 2 none, Cond.methodLink RX1 3 objectInit, Cond.arrayClass .int, Cond.fieldLink RX1 9 "MarkdownPlanner$Season" "prices" "[I", Cond.fieldLink RX1 15 "MarkdownPlanner$Season" "weeks" "I", Cond.fieldLink RX1 19 "MarkdownPlanner$Season" "gap" "I", Cond.instanceMethod yX0_init, Cond.code yX0_init cX0_init 1 none]
def wsX3_init_r2 : List Cond := [Cond.methodLink RX0 3 objectInit, Cond.fieldLink RX0 9 "MarkdownPlanner$Plans" "prices" "[I", Cond.fieldLink RX0 15 "MarkdownPlanner$Plans" "demands" "[I", Cond.fieldLink RX0 18 "MarkdownPlanner$Plans" "worths" "[I", Cond.fieldLink RX0 21 "MarkdownPlanner$Plans" "ladder" "[I", Cond.instanceMethod yX2_init, Cond.code yX2_init cX2_init 1 none, Cond.methodLink RX2 3 objectInit, Cond.fieldLink RX2 9 "MarkdownPlanner$Store" "demands" "[I", Cond.fieldLink RX2 15 "MarkdownPlanner$Store" "pieces" "[I", Cond.fieldLink RX2 18 "MarkdownPlanner$Store" "markedDownIn" "I"]
def wsX3_init : List Cond := .code yX3_init cX3_init 2 none :: ((wsX3_init_r1 ++ wsX3_init_r2) ++ wsX10 ++ wsX30 ++ wsX00 ++ wsX20)
def wsX3_requireWithin : List Cond := .code yX3_requireWithin cX3_requireWithin 3 none :: ([.classLink RX3 105 "java/lang/IllegalArgumentException", .initialized "java/lang/IllegalArgumentException"] ++ (vx_atS RX3 109 "java/lang/IllegalArgumentException" ["java/lang/RuntimeException", "java/lang/Exception"]).filter goodWord)
def wsX3_begin : List Cond := .code yX3_begin cX3_begin 7 (some .int) :: ([.fieldLink RX3 12 "MarkdownPlanner" "season" "LMarkdownPlanner$Season;", .fieldLink RX3 18 "MarkdownPlanner" "stores" "[LMarkdownPlanner$Store;", .methodLink RX3 30 yX3_requireWithin, .static yX3_requireWithin, .initialized RX3, .code yX3_requireWithin cX3_requireWithin 3 none, .classLink RX3 105 "java/lang/IllegalArgumentException", .initialized "java/lang/IllegalArgumentException", .instanceMethod yX1_startAnew, .initialized RX1, .selects RX1 yX1_startAnew yX1_startAnew, .code yX1_startAnew cX1_startAnew 2 none, .fieldLink RX1 15 "MarkdownPlanner$Season" "weeks" "I", .fieldLink RX1 22 "MarkdownPlanner$Season" "week" "I", .fieldLink RX1 25 "MarkdownPlanner$Season" "taken" "I", .instanceMethod yX2_startAnew, .initialized RX2, .selects RX2 yX2_startAnew yX2_startAnew, .code yX2_startAnew cX2_startAnew 1 none, .fieldLink RX2 22 "MarkdownPlanner$Store" "step" "I", .fieldLink RX2 18 "MarkdownPlanner$Store" "markedDownIn" "I", .fieldLink RX2 25 "MarkdownPlanner$Store" "piecesSold" "I"] ++ wsX30 ++ wsX10 ++ wsX20 ++ (vx_atS RX3 109 "java/lang/IllegalArgumentException" ["java/lang/RuntimeException", "java/lang/Exception"]).filter goodWord)
def wsX3_requireStep : List Cond := .code yX3_requireStep cX3_requireStep 1 none :: ([.methodLink RX3 30 yX3_requireWithin, .static yX3_requireWithin, .initialized RX3, .code yX3_requireWithin cX3_requireWithin 3 none, .classLink RX3 105 "java/lang/IllegalArgumentException", .initialized "java/lang/IllegalArgumentException"] ++ (vx_atS RX3 109 "java/lang/IllegalArgumentException" ["java/lang/RuntimeException", "java/lang/Exception"]).filter goodWord)
def wsX3_setPrice : List Cond := .code yX3_setPrice cX3_setPrice 4 (some .int) :: ([.classLink RX3 51 "java/lang/IllegalStateException", .initialized "java/lang/IllegalStateException", .fieldLink RX3 12 "MarkdownPlanner" "season" "LMarkdownPlanner$Season;", .methodLink RX3 44 yX3_requireStep, .static yX3_requireStep, .initialized RX3, .code yX3_requireStep cX3_requireStep 1 none, .methodLink RX3 30 yX3_requireWithin, .static yX3_requireWithin, .code yX3_requireWithin cX3_requireWithin 3 none, .classLink RX3 105 "java/lang/IllegalArgumentException", .initialized "java/lang/IllegalArgumentException", .instanceMethod yX1_keepsLadderDown, .initialized RX1, .selects RX1 yX1_keepsLadderDown yX1_keepsLadderDown, .code yX1_keepsLadderDown cX1_keepsLadderDown 5 (some .boolean), .fieldLink RX1 9 "MarkdownPlanner$Season" "prices" "[I"] ++ wsX30 ++ wsX10 ++ (vx_atS RX3 55 "java/lang/IllegalStateException" ["java/lang/RuntimeException", "java/lang/Exception"]).filter goodWord ++ (vx_atS RX3 109 "java/lang/IllegalArgumentException" ["java/lang/RuntimeException", "java/lang/Exception"]).filter goodWord)
def wsX3_storeOf : List Cond := .code yX3_storeOf cX3_storeOf 2 (some (.object "MarkdownPlanner$Store")) :: ([.fieldLink RX3 18 "MarkdownPlanner" "stores" "[LMarkdownPlanner$Store;", .methodLink RX3 30 yX3_requireWithin, .static yX3_requireWithin, .initialized RX3, .code yX3_requireWithin cX3_requireWithin 3 none, .classLink RX3 105 "java/lang/IllegalArgumentException", .initialized "java/lang/IllegalArgumentException"] ++ wsX30 ++ (vx_atS RX3 109 "java/lang/IllegalArgumentException" ["java/lang/RuntimeException", "java/lang/Exception"]).filter goodWord)
def wsX3_setDemand : List Cond := .code yX3_setDemand cX3_setDemand 6 (some .int) :: ([.methodLink RX3 62 yX3_storeOf, .instanceMethod yX3_storeOf, .selects RX3 yX3_storeOf yX3_storeOf, .initialized RX3, .code yX3_storeOf cX3_storeOf 2 (some (.object "MarkdownPlanner$Store")), .fieldLink RX3 18 "MarkdownPlanner" "stores" "[LMarkdownPlanner$Store;", .methodLink RX3 30 yX3_requireWithin, .static yX3_requireWithin, .code yX3_requireWithin cX3_requireWithin 3 none, .classLink RX3 105 "java/lang/IllegalArgumentException", .initialized "java/lang/IllegalArgumentException", .methodLink RX3 44 yX3_requireStep, .static yX3_requireStep, .code yX3_requireStep cX3_requireStep 1 none] ++ wsX20 ++ wsX30 ++ (vx_atS RX3 109 "java/lang/IllegalArgumentException" ["java/lang/RuntimeException", "java/lang/Exception"]).filter goodWord)
def wsX3_setRules : List Cond := .code yX3_setRules cX3_setRules 4 none :: ([.fieldLink RX3 12 "MarkdownPlanner" "season" "LMarkdownPlanner$Season;", .methodLink RX3 30 yX3_requireWithin, .static yX3_requireWithin, .initialized RX3, .code yX3_requireWithin cX3_requireWithin 3 none, .classLink RX3 105 "java/lang/IllegalArgumentException", .initialized "java/lang/IllegalArgumentException"] ++ wsX30 ++ wsX10 ++ (vx_atS RX3 109 "java/lang/IllegalArgumentException" ["java/lang/RuntimeException", "java/lang/Exception"]).filter goodWord)
def wsX3_requireSize : List Cond := .code yX3_requireSize cX3_requireSize 1 none :: ([.methodLink RX3 30 yX3_requireWithin, .static yX3_requireWithin, .initialized RX3, .code yX3_requireWithin cX3_requireWithin 3 none, .classLink RX3 105 "java/lang/IllegalArgumentException", .initialized "java/lang/IllegalArgumentException"] ++ (vx_atS RX3 109 "java/lang/IllegalArgumentException" ["java/lang/RuntimeException", "java/lang/Exception"]).filter goodWord)
def wsX3_requireRoomFor : List Cond := .code yX3_requireRoomFor cX3_requireRoomFor 2 none :: ([.classLink RX3 51 "java/lang/IllegalStateException", .initialized "java/lang/IllegalStateException", .instanceMethod yX2_wholeStock, .initialized RX2, .selects RX2 yX2_wholeStock yX2_wholeStock, .code yX2_wholeStock cX2_wholeStock 3 (some .int), .fieldLink RX2 15 "MarkdownPlanner$Store" "pieces" "[I"] ++ wsX20 ++ (vx_atS RX3 55 "java/lang/IllegalStateException" ["java/lang/RuntimeException", "java/lang/Exception"]).filter goodWord)
def wsX3_put : List Cond := .code yX3_put cX3_put 5 (some .int) :: ([.methodLink RX3 62 yX3_storeOf, .instanceMethod yX3_storeOf, .selects RX3 yX3_storeOf yX3_storeOf, .initialized RX3, .code yX3_storeOf cX3_storeOf 2 (some (.object "MarkdownPlanner$Store")), .fieldLink RX3 18 "MarkdownPlanner" "stores" "[LMarkdownPlanner$Store;", .methodLink RX3 30 yX3_requireWithin, .static yX3_requireWithin, .code yX3_requireWithin cX3_requireWithin 3 none, .classLink RX3 105 "java/lang/IllegalArgumentException", .initialized "java/lang/IllegalArgumentException", .methodLink RX3 78 yX3_requireSize, .static yX3_requireSize, .code yX3_requireSize cX3_requireSize 1 none, .methodLink RX3 81 yX3_requireRoomFor, .static yX3_requireRoomFor, .code yX3_requireRoomFor cX3_requireRoomFor 2 none, .classLink RX3 51 "java/lang/IllegalStateException", .initialized "java/lang/IllegalStateException", .instanceMethod yX2_wholeStock, .initialized RX2, .selects RX2 yX2_wholeStock yX2_wholeStock, .code yX2_wholeStock cX2_wholeStock 3 (some .int), .fieldLink RX2 15 "MarkdownPlanner$Store" "pieces" "[I"] ++ wsX20 ++ wsX30 ++ (vx_atS RX3 109 "java/lang/IllegalArgumentException" ["java/lang/RuntimeException", "java/lang/Exception"]).filter goodWord ++ (vx_atS RX3 55 "java/lang/IllegalStateException" ["java/lang/RuntimeException", "java/lang/Exception"]).filter goodWord)
def wsX3_requireSeasonOn : List Cond := .code yX3_requireSeasonOn cX3_requireSeasonOn 1 none :: ([.classLink RX3 51 "java/lang/IllegalStateException", .initialized "java/lang/IllegalStateException", .fieldLink RX3 12 "MarkdownPlanner" "season" "LMarkdownPlanner$Season;"] ++ wsX30 ++ wsX10 ++ (vx_atS RX3 55 "java/lang/IllegalStateException" ["java/lang/RuntimeException", "java/lang/Exception"]).filter goodWord)
def wsX3_markDown_r1 : List Cond := [Cond.classLink RX3 51 "java/lang/IllegalStateException", Cond.initialized "java/lang/IllegalStateException", Cond.fieldLink RX3 12 "MarkdownPlanner" "season" "LMarkdownPlanner$Season;", Cond.methodLink RX3 62 yX3_storeOf, Cond.instanceMethod yX3_storeOf, Cond.selects RX3 yX3_storeOf yX3_storeOf, Cond.initialized RX3, Cond.code yX3_storeOf cX3_storeOf 2 (some (.object "MarkdownPlanner$Store")), Cond.fieldLink RX3 18 "MarkdownPlanner" "stores" "[LMarkdownPlanner$Store;", Cond.methodLink RX3 30 yX3_requireWithin, Cond.static yX3_requireWithin, Cond.code yX3_requireWithin cX3_requireWithin 3 none, Cond.classLink RX3 105 "java/lang/IllegalArgumentException", Cond.initialized "java/lang/IllegalArgumentException", Cond.methodLink RX3 44 yX3_requireStep, Cond.static yX3_requireStep, Cond.code yX3_requireStep cX3_requireStep 1 none, Cond.methodLink RX3 88 yX3_requireSeasonOn, Cond.instanceMethod yX3_requireSeasonOn, Cond.selects RX3 yX3_requireSeasonOn yX3_requireSeasonOn, Cond.code yX3_requireSeasonOn cX3_requireSeasonOn 1 none, Cond.instanceMethod yX2_waitFrom, Cond.initialized RX2, Cond.selects RX2 yX2_waitFrom yX2_waitFrom]
def wsX3_markDown_r2 : List Cond := [Cond.code yX2_waitFrom cX2_waitFrom 3 (some .int), Cond.fieldLink RX2 18 "MarkdownPlanner$Store" "markedDownIn" "I", Cond.methodLink RX2 28 Lib.Math.max.name, Cond.static Lib.Math.max.name, Cond.initialized "java/lang/Math", Cond.code Lib.Math.max.name Lib.Math.max.code 2 (some .int)]
def wsX3_markDown : List Cond := .code yX3_markDown cX3_markDown 4 (some .int) :: ((wsX3_markDown_r1 ++ wsX3_markDown_r2) ++ wsX20 ++ wsX30 ++ wsX10 ++ (vx_atS RX3 55 "java/lang/IllegalStateException" ["java/lang/RuntimeException", "java/lang/Exception"]).filter goodWord ++ (vx_atS RX3 109 "java/lang/IllegalArgumentException" ["java/lang/RuntimeException", "java/lang/Exception"]).filter goodWord)
def wsX3_move_r1 : List Cond := [Cond.classLink RX3 105 "java/lang/IllegalArgumentException", Cond.initialized "java/lang/IllegalArgumentException", Cond.classLink RX3 51 "java/lang/IllegalStateException", Cond.initialized "java/lang/IllegalStateException", Cond.fieldLink RX3 12 "MarkdownPlanner" "season" "LMarkdownPlanner$Season;", Cond.methodLink RX3 62 yX3_storeOf, Cond.instanceMethod yX3_storeOf, Cond.selects RX3 yX3_storeOf yX3_storeOf, Cond.initialized RX3, Cond.code yX3_storeOf cX3_storeOf 2 (some (.object "MarkdownPlanner$Store")), Cond.fieldLink RX3 18 "MarkdownPlanner" "stores" "[LMarkdownPlanner$Store;", Cond.methodLink RX3 30 yX3_requireWithin, Cond.static yX3_requireWithin, Cond.code yX3_requireWithin cX3_requireWithin 3 none, Cond.methodLink RX3 78 yX3_requireSize, Cond.static yX3_requireSize, Cond.code yX3_requireSize cX3_requireSize 1 none, Cond.methodLink RX3 88 yX3_requireSeasonOn, Cond.instanceMethod yX3_requireSeasonOn, Cond.selects RX3 yX3_requireSeasonOn yX3_requireSeasonOn, Cond.code yX3_requireSeasonOn cX3_requireSeasonOn 1 none, Cond.methodLink RX3 81 yX3_requireRoomFor, Cond.static yX3_requireRoomFor, Cond.code yX3_requireRoomFor cX3_requireRoomFor 2 none]
def wsX3_move_r2 : List Cond := [Cond.instanceMethod yX2_wholeStock, Cond.initialized RX2, Cond.selects RX2 yX2_wholeStock yX2_wholeStock, Cond.code yX2_wholeStock cX2_wholeStock 3 (some .int), Cond.fieldLink RX2 15 "MarkdownPlanner$Store" "pieces" "[I"]
def wsX3_move : List Cond := .code yX3_move cX3_move 8 (some .int) :: ((wsX3_move_r1 ++ wsX3_move_r2) ++ wsX20 ++ wsX30 ++ wsX10 ++ (vx_atS RX3 109 "java/lang/IllegalArgumentException" ["java/lang/RuntimeException", "java/lang/Exception"]).filter goodWord ++ (vx_atS RX3 55 "java/lang/IllegalStateException" ["java/lang/RuntimeException", "java/lang/Exception"]).filter goodWord)
def wsX3_run_r1 : List Cond := [Cond.fieldLink RX3 18 "MarkdownPlanner" "stores" "[LMarkdownPlanner$Store;", Cond.fieldLink RX3 12 "MarkdownPlanner" "season" "LMarkdownPlanner$Season;", Cond.methodLink RX3 88 yX3_requireSeasonOn, Cond.instanceMethod yX3_requireSeasonOn, Cond.selects RX3 yX3_requireSeasonOn yX3_requireSeasonOn, Cond.initialized RX3, Cond.code yX3_requireSeasonOn cX3_requireSeasonOn 1 none, Cond.classLink RX3 51 "java/lang/IllegalStateException", Cond.initialized "java/lang/IllegalStateException", Cond.instanceMethod yX2_sellForAWeek, Cond.initialized RX2, Cond.selects RX2 yX2_sellForAWeek yX2_sellForAWeek, Cond.code yX2_sellForAWeek cX2_sellForAWeek 3 (some .int), Cond.fieldLink RX2 22 "MarkdownPlanner$Store" "step" "I", Cond.fieldLink RX2 15 "MarkdownPlanner$Store" "pieces" "[I", Cond.fieldLink RX2 25 "MarkdownPlanner$Store" "piecesSold" "I", Cond.methodLink RX2 44 yX2_salesAt, Cond.instanceMethod yX2_salesAt, Cond.selects RX2 yX2_salesAt yX2_salesAt, Cond.code yX2_salesAt cX2_salesAt 2 (some .int), Cond.fieldLink RX2 9 "MarkdownPlanner$Store" "demands" "[I", Cond.methodLink RX2 41 Lib.Math.min.name, Cond.static Lib.Math.min.name, Cond.initialized "java/lang/Math"]
def wsX3_run_r2 : List Cond := [Cond.code Lib.Math.min.name Lib.Math.min.code 2 (some .int), Cond.methodLink RX2 34 yX2_sizesInStock, Cond.instanceMethod yX2_sizesInStock, Cond.selects RX2 yX2_sizesInStock yX2_sizesInStock, Cond.code yX2_sizesInStock cX2_sizesInStock 3 (some .int), Cond.methodLink RX2 38 yX2_wholeStock, Cond.instanceMethod yX2_wholeStock, Cond.selects RX2 yX2_wholeStock yX2_wholeStock, Cond.code yX2_wholeStock cX2_wholeStock 3 (some .int), Cond.methodLink RX2 48 yX2_fullestSize, Cond.instanceMethod yX2_fullestSize, Cond.selects RX2 yX2_fullestSize yX2_fullestSize, Cond.code yX2_fullestSize cX2_fullestSize 3 (some .int)]
def wsX3_run : List Cond := .code yX3_run cX3_run 6 (some .int) :: ((wsX3_run_r1 ++ wsX3_run_r2) ++ wsX30 ++ wsX10 ++ wsX20 ++ (vx_atS RX3 55 "java/lang/IllegalStateException" ["java/lang/RuntimeException", "java/lang/Exception"]).filter goodWord)
def wsX3_week : List Cond := .code yX3_week cX3_week 1 (some .int) :: ([.fieldLink RX3 12 "MarkdownPlanner" "season" "LMarkdownPlanner$Season;"] ++ wsX30 ++ wsX10)
def wsX3_stock : List Cond := .code yX3_stock cX3_stock 4 (some .int) :: ([.methodLink RX3 62 yX3_storeOf, .instanceMethod yX3_storeOf, .selects RX3 yX3_storeOf yX3_storeOf, .initialized RX3, .code yX3_storeOf cX3_storeOf 2 (some (.object "MarkdownPlanner$Store")), .fieldLink RX3 18 "MarkdownPlanner" "stores" "[LMarkdownPlanner$Store;", .methodLink RX3 30 yX3_requireWithin, .static yX3_requireWithin, .code yX3_requireWithin cX3_requireWithin 3 none, .classLink RX3 105 "java/lang/IllegalArgumentException", .initialized "java/lang/IllegalArgumentException", .methodLink RX3 78 yX3_requireSize, .static yX3_requireSize, .code yX3_requireSize cX3_requireSize 1 none] ++ wsX20 ++ wsX30 ++ (vx_atS RX3 109 "java/lang/IllegalArgumentException" ["java/lang/RuntimeException", "java/lang/Exception"]).filter goodWord)
def wsX3_step : List Cond := .code yX3_step cX3_step 2 (some .int) :: ([.methodLink RX3 62 yX3_storeOf, .instanceMethod yX3_storeOf, .selects RX3 yX3_storeOf yX3_storeOf, .initialized RX3, .code yX3_storeOf cX3_storeOf 2 (some (.object "MarkdownPlanner$Store")), .fieldLink RX3 18 "MarkdownPlanner" "stores" "[LMarkdownPlanner$Store;", .methodLink RX3 30 yX3_requireWithin, .static yX3_requireWithin, .code yX3_requireWithin cX3_requireWithin 3 none, .classLink RX3 105 "java/lang/IllegalArgumentException", .initialized "java/lang/IllegalArgumentException"] ++ wsX20 ++ wsX30 ++ (vx_atS RX3 109 "java/lang/IllegalArgumentException" ["java/lang/RuntimeException", "java/lang/Exception"]).filter goodWord)
def wsX3_weeksToWait : List Cond := .code yX3_weeksToWait cX3_weeksToWait 2 (some .int) :: ([.fieldLink RX3 12 "MarkdownPlanner" "season" "LMarkdownPlanner$Season;", .methodLink RX3 62 yX3_storeOf, .instanceMethod yX3_storeOf, .selects RX3 yX3_storeOf yX3_storeOf, .initialized RX3, .code yX3_storeOf cX3_storeOf 2 (some (.object "MarkdownPlanner$Store")), .fieldLink RX3 18 "MarkdownPlanner" "stores" "[LMarkdownPlanner$Store;", .methodLink RX3 30 yX3_requireWithin, .static yX3_requireWithin, .code yX3_requireWithin cX3_requireWithin 3 none, .classLink RX3 105 "java/lang/IllegalArgumentException", .initialized "java/lang/IllegalArgumentException", .instanceMethod yX2_waitFrom, .initialized RX2, .selects RX2 yX2_waitFrom yX2_waitFrom, .code yX2_waitFrom cX2_waitFrom 3 (some .int), .fieldLink RX2 18 "MarkdownPlanner$Store" "markedDownIn" "I", .methodLink RX2 28 Lib.Math.max.name, .static Lib.Math.max.name, .initialized "java/lang/Math", .code Lib.Math.max.name Lib.Math.max.code 2 (some .int)] ++ wsX30 ++ wsX10 ++ wsX20 ++ (vx_atS RX3 109 "java/lang/IllegalArgumentException" ["java/lang/RuntimeException", "java/lang/Exception"]).filter goodWord)
def wsX3_sold : List Cond := .code yX3_sold cX3_sold 2 (some .int) :: ([.methodLink RX3 62 yX3_storeOf, .instanceMethod yX3_storeOf, .selects RX3 yX3_storeOf yX3_storeOf, .initialized RX3, .code yX3_storeOf cX3_storeOf 2 (some (.object "MarkdownPlanner$Store")), .fieldLink RX3 18 "MarkdownPlanner" "stores" "[LMarkdownPlanner$Store;", .methodLink RX3 30 yX3_requireWithin, .static yX3_requireWithin, .code yX3_requireWithin cX3_requireWithin 3 none, .classLink RX3 105 "java/lang/IllegalArgumentException", .initialized "java/lang/IllegalArgumentException"] ++ wsX20 ++ wsX30 ++ (vx_atS RX3 109 "java/lang/IllegalArgumentException" ["java/lang/RuntimeException", "java/lang/Exception"]).filter goodWord)
def wsX3_taken : List Cond := .code yX3_taken cX3_taken 1 (some .int) :: ([.fieldLink RX3 12 "MarkdownPlanner" "season" "LMarkdownPlanner$Season;"] ++ wsX30 ++ wsX10)
def wsX3_wouldSell_r1 : List Cond := [Cond.methodLink RX3 62 yX3_storeOf, Cond.instanceMethod yX3_storeOf, Cond.selects RX3 yX3_storeOf yX3_storeOf, Cond.initialized RX3, Cond.code yX3_storeOf cX3_storeOf 2 (some (.object "MarkdownPlanner$Store")), Cond.fieldLink RX3 18 "MarkdownPlanner" "stores" "[LMarkdownPlanner$Store;", Cond.methodLink RX3 30 yX3_requireWithin, Cond.static yX3_requireWithin, Cond.code yX3_requireWithin cX3_requireWithin 3 none, Cond.classLink RX3 105 "java/lang/IllegalArgumentException", Cond.initialized "java/lang/IllegalArgumentException", Cond.methodLink RX3 44 yX3_requireStep, Cond.static yX3_requireStep, Cond.code yX3_requireStep cX3_requireStep 1 none, Cond.instanceMethod yX2_salesAt, Cond.initialized RX2, Cond.selects RX2 yX2_salesAt yX2_salesAt, Cond.code yX2_salesAt cX2_salesAt 2 (some .int), Cond.fieldLink RX2 9 "MarkdownPlanner$Store" "demands" "[I", Cond.methodLink RX2 41 Lib.Math.min.name, Cond.static Lib.Math.min.name, Cond.initialized "java/lang/Math", Cond.code Lib.Math.min.name Lib.Math.min.code 2 (some .int), Cond.methodLink RX2 34 yX2_sizesInStock]
def wsX3_wouldSell_r2 : List Cond := [Cond.instanceMethod yX2_sizesInStock, Cond.selects RX2 yX2_sizesInStock yX2_sizesInStock, Cond.code yX2_sizesInStock cX2_sizesInStock 3 (some .int), Cond.fieldLink RX2 15 "MarkdownPlanner$Store" "pieces" "[I", Cond.methodLink RX2 38 yX2_wholeStock, Cond.instanceMethod yX2_wholeStock, Cond.selects RX2 yX2_wholeStock yX2_wholeStock, Cond.code yX2_wholeStock cX2_wholeStock 3 (some .int)]
def wsX3_wouldSell : List Cond := .code yX3_wouldSell cX3_wouldSell 4 (some .int) :: ((wsX3_wouldSell_r1 ++ wsX3_wouldSell_r2) ++ wsX30 ++ wsX20 ++ (vx_atS RX3 109 "java/lang/IllegalArgumentException" ["java/lang/RuntimeException", "java/lang/Exception"]).filter goodWord)
def wsX3_best_r1 : List Cond := [Cond.fieldLink RX3 25 "MarkdownPlanner" "plans" "LMarkdownPlanner$Plans;", Cond.fieldLink RX3 12 "MarkdownPlanner" "season" "LMarkdownPlanner$Season;", Cond.methodLink RX3 62 yX3_storeOf, Cond.instanceMethod yX3_storeOf, Cond.selects RX3 yX3_storeOf yX3_storeOf, Cond.initialized RX3, Cond.code yX3_storeOf cX3_storeOf 2 (some (.object "MarkdownPlanner$Store")), Cond.fieldLink RX3 18 "MarkdownPlanner" "stores" "[LMarkdownPlanner$Store;", Cond.methodLink RX3 30 yX3_requireWithin, Cond.static yX3_requireWithin, Cond.code yX3_requireWithin cX3_requireWithin 3 none, Cond.classLink RX3 105 "java/lang/IllegalArgumentException", Cond.initialized "java/lang/IllegalArgumentException", Cond.instanceMethod yX0_lookAt, Cond.initialized RX0, Cond.selects RX0 yX0_lookAt yX0_lookAt, Cond.code yX0_lookAt cX0_lookAt 3 none, Cond.fieldLink RX0 9 "MarkdownPlanner$Plans" "prices" "[I", Cond.methodLink RX0 27 arraycopyName, Cond.native arraycopyName, Cond.static arraycopyName, Cond.initialized "java/lang/System", Cond.fieldLink RX0 15 "MarkdownPlanner$Plans" "demands" "[I", Cond.fieldLink RX0 40 "MarkdownPlanner$Plans" "firstWeek" "I"]
def wsX3_best_r2 : List Cond := [Cond.fieldLink RX0 46 "MarkdownPlanner$Plans" "endWeek" "I", Cond.fieldLink RX0 52 "MarkdownPlanner$Plans" "gap" "I", Cond.fieldLink RX0 56 "MarkdownPlanner$Plans" "remnant" "I", Cond.methodLink RX0 61 Lib.Math.min.name, Cond.static Lib.Math.min.name, Cond.initialized "java/lang/Math", Cond.code Lib.Math.min.name Lib.Math.min.code 2 (some .int), Cond.fieldLink RX0 66 "MarkdownPlanner$Plans" "freeWeek" "I", Cond.fieldLink RX0 72 "MarkdownPlanner$Plans" "ownStep" "I", Cond.fieldLink RX0 79 "MarkdownPlanner$Plans" "ownStock" "I", Cond.instanceMethod yX2_waitFrom, Cond.initialized RX2, Cond.selects RX2 yX2_waitFrom yX2_waitFrom, Cond.code yX2_waitFrom cX2_waitFrom 3 (some .int), Cond.fieldLink RX2 18 "MarkdownPlanner$Store" "markedDownIn" "I", Cond.methodLink RX2 28 Lib.Math.max.name, Cond.static Lib.Math.max.name, Cond.code Lib.Math.max.name Lib.Math.max.code 2 (some .int), Cond.instanceMethod yX2_wholeStock, Cond.selects RX2 yX2_wholeStock yX2_wholeStock, Cond.code yX2_wholeStock cX2_wholeStock 3 (some .int), Cond.fieldLink RX2 15 "MarkdownPlanner$Store" "pieces" "[I", Cond.instanceMethod yX0_greatestWorth, Cond.selects RX0 yX0_greatestWorth yX0_greatestWorth]
def wsX3_best_r3 : List Cond := [Cond.code yX0_greatestWorth cX0_greatestWorth 2 (some .int), Cond.methodLink RX0 82 yX0_tellWorths, Cond.instanceMethod yX0_tellWorths, Cond.selects RX0 yX0_tellWorths yX0_tellWorths, Cond.code yX0_tellWorths cX0_tellWorths 5 none, Cond.fieldLink RX0 94 "MarkdownPlanner$Plans" "mostLeft" "I", Cond.fieldLink RX0 18 "MarkdownPlanner$Plans" "worths" "[I", Cond.methodLink RX0 97 yX0_placeOf, Cond.static yX0_placeOf, Cond.code yX0_placeOf cX0_placeOf 3 (some .int), Cond.methodLink RX0 100 yX0_worthOfChoosing, Cond.instanceMethod yX0_worthOfChoosing, Cond.selects RX0 yX0_worthOfChoosing yX0_worthOfChoosing, Cond.code yX0_worthOfChoosing cX0_worthOfChoosing 6 (some .int), Cond.methodLink RX0 106 Lib.Math.max.name, Cond.methodLink RX0 103 yX0_worthOfTaking, Cond.instanceMethod yX0_worthOfTaking, Cond.selects RX0 yX0_worthOfTaking yX0_worthOfTaking, Cond.code yX0_worthOfTaking cX0_worthOfTaking 5 (some .int), Cond.methodLink RX0 86 yX0_worthOfKeeping, Cond.instanceMethod yX0_worthOfKeeping, Cond.selects RX0 yX0_worthOfKeeping yX0_worthOfKeeping, Cond.code yX0_worthOfKeeping cX0_worthOfKeeping 8 (some .int), Cond.methodLink RX0 109 yX0_worthFrom]
def wsX3_best_r4 : List Cond := [Cond.instanceMethod yX0_worthFrom, Cond.selects RX0 yX0_worthFrom yX0_worthFrom, Cond.code yX0_worthFrom cX0_worthFrom 4 (some .int)]
def wsX3_best : List Cond := .code yX3_best cX3_best 2 (some .int) :: ((wsX3_best_r1 ++ (wsX3_best_r2 ++ (wsX3_best_r3 ++ wsX3_best_r4))) ++ wsX30 ++ wsX10 ++ wsX00 ++ wsX20 ++ (vx_atS RX3 109 "java/lang/IllegalArgumentException" ["java/lang/RuntimeException", "java/lang/Exception"]).filter goodWord)
def wsX3_bestByAll_r1 : List Cond := [Cond.classLink RX3 51 "java/lang/IllegalStateException", Cond.initialized "java/lang/IllegalStateException", Cond.fieldLink RX3 12 "MarkdownPlanner" "season" "LMarkdownPlanner$Season;", Cond.fieldLink RX3 25 "MarkdownPlanner" "plans" "LMarkdownPlanner$Plans;", Cond.methodLink RX3 62 yX3_storeOf, Cond.instanceMethod yX3_storeOf, Cond.selects RX3 yX3_storeOf yX3_storeOf, Cond.initialized RX3, Cond.code yX3_storeOf cX3_storeOf 2 (some (.object "MarkdownPlanner$Store")), Cond.fieldLink RX3 18 "MarkdownPlanner" "stores" "[LMarkdownPlanner$Store;", Cond.methodLink RX3 30 yX3_requireWithin, Cond.static yX3_requireWithin, Cond.code yX3_requireWithin cX3_requireWithin 3 none, Cond.classLink RX3 105 "java/lang/IllegalArgumentException", Cond.initialized "java/lang/IllegalArgumentException", Cond.instanceMethod yX0_lookAt, Cond.initialized RX0, Cond.selects RX0 yX0_lookAt yX0_lookAt, Cond.code yX0_lookAt cX0_lookAt 3 none, Cond.fieldLink RX0 9 "MarkdownPlanner$Plans" "prices" "[I", Cond.methodLink RX0 27 arraycopyName, Cond.native arraycopyName, Cond.static arraycopyName, Cond.initialized "java/lang/System"]
def wsX3_bestByAll_r2 : List Cond := [Cond.fieldLink RX0 15 "MarkdownPlanner$Plans" "demands" "[I", Cond.fieldLink RX0 40 "MarkdownPlanner$Plans" "firstWeek" "I", Cond.fieldLink RX0 46 "MarkdownPlanner$Plans" "endWeek" "I", Cond.fieldLink RX0 52 "MarkdownPlanner$Plans" "gap" "I", Cond.fieldLink RX0 56 "MarkdownPlanner$Plans" "remnant" "I", Cond.methodLink RX0 61 Lib.Math.min.name, Cond.static Lib.Math.min.name, Cond.initialized "java/lang/Math", Cond.code Lib.Math.min.name Lib.Math.min.code 2 (some .int), Cond.fieldLink RX0 66 "MarkdownPlanner$Plans" "freeWeek" "I", Cond.fieldLink RX0 72 "MarkdownPlanner$Plans" "ownStep" "I", Cond.fieldLink RX0 79 "MarkdownPlanner$Plans" "ownStock" "I", Cond.instanceMethod yX2_waitFrom, Cond.initialized RX2, Cond.selects RX2 yX2_waitFrom yX2_waitFrom, Cond.code yX2_waitFrom cX2_waitFrom 3 (some .int), Cond.fieldLink RX2 18 "MarkdownPlanner$Store" "markedDownIn" "I", Cond.methodLink RX2 28 Lib.Math.max.name, Cond.static Lib.Math.max.name, Cond.code Lib.Math.max.name Lib.Math.max.code 2 (some .int), Cond.instanceMethod yX2_wholeStock, Cond.selects RX2 yX2_wholeStock yX2_wholeStock, Cond.code yX2_wholeStock cX2_wholeStock 3 (some .int), Cond.fieldLink RX2 15 "MarkdownPlanner$Store" "pieces" "[I"]
def wsX3_bestByAll_r3 : List Cond := [Cond.instanceMethod yX0_greatestWorthByAll, Cond.selects RX0 yX0_greatestWorthByAll yX0_greatestWorthByAll, Cond.code yX0_greatestWorthByAll cX0_greatestWorthByAll 5 (some .int), Cond.fieldLink RX0 21 "MarkdownPlanner$Plans" "ladder" "[I", Cond.constant RX0 112 (1000000), Cond.methodLink RX0 106 Lib.Math.max.name, Cond.methodLink RX0 113 yX0_worthOfLadder, Cond.instanceMethod yX0_worthOfLadder, Cond.selects RX0 yX0_worthOfLadder yX0_worthOfLadder, Cond.code yX0_worthOfLadder cX0_worthOfLadder 9 (some .int), Cond.methodLink RX0 117 yX0_turnToNextLadder, Cond.instanceMethod yX0_turnToNextLadder, Cond.selects RX0 yX0_turnToNextLadder yX0_turnToNextLadder, Cond.code yX0_turnToNextLadder cX0_turnToNextLadder 5 (some .boolean)]
def wsX3_bestByAll : List Cond := .code yX3_bestByAll cX3_bestByAll 3 (some .int) :: ((wsX3_bestByAll_r1 ++ (wsX3_bestByAll_r2 ++ wsX3_bestByAll_r3)) ++ wsX30 ++ wsX10 ++ wsX00 ++ wsX20 ++ (vx_atS RX3 55 "java/lang/IllegalStateException" ["java/lang/RuntimeException", "java/lang/Exception"]).filter goodWord ++ (vx_atS RX3 109 "java/lang/IllegalArgumentException" ["java/lang/RuntimeException", "java/lang/Exception"]).filter goodWord)
def wsX3_planned_r1 : List Cond := [Cond.fieldLink RX3 12 "MarkdownPlanner" "season" "LMarkdownPlanner$Season;", Cond.fieldLink RX3 25 "MarkdownPlanner" "plans" "LMarkdownPlanner$Plans;", Cond.methodLink RX3 62 yX3_storeOf, Cond.instanceMethod yX3_storeOf, Cond.selects RX3 yX3_storeOf yX3_storeOf, Cond.initialized RX3, Cond.code yX3_storeOf cX3_storeOf 2 (some (.object "MarkdownPlanner$Store")), Cond.fieldLink RX3 18 "MarkdownPlanner" "stores" "[LMarkdownPlanner$Store;", Cond.methodLink RX3 30 yX3_requireWithin, Cond.static yX3_requireWithin, Cond.code yX3_requireWithin cX3_requireWithin 3 none, Cond.classLink RX3 105 "java/lang/IllegalArgumentException", Cond.initialized "java/lang/IllegalArgumentException", Cond.instanceMethod yX0_lookAt, Cond.initialized RX0, Cond.selects RX0 yX0_lookAt yX0_lookAt, Cond.code yX0_lookAt cX0_lookAt 3 none, Cond.fieldLink RX0 9 "MarkdownPlanner$Plans" "prices" "[I", Cond.methodLink RX0 27 arraycopyName, Cond.native arraycopyName, Cond.static arraycopyName, Cond.initialized "java/lang/System", Cond.fieldLink RX0 15 "MarkdownPlanner$Plans" "demands" "[I", Cond.fieldLink RX0 40 "MarkdownPlanner$Plans" "firstWeek" "I"]
def wsX3_planned_r2 : List Cond := [Cond.fieldLink RX0 46 "MarkdownPlanner$Plans" "endWeek" "I", Cond.fieldLink RX0 52 "MarkdownPlanner$Plans" "gap" "I", Cond.fieldLink RX0 56 "MarkdownPlanner$Plans" "remnant" "I", Cond.methodLink RX0 61 Lib.Math.min.name, Cond.static Lib.Math.min.name, Cond.initialized "java/lang/Math", Cond.code Lib.Math.min.name Lib.Math.min.code 2 (some .int), Cond.fieldLink RX0 66 "MarkdownPlanner$Plans" "freeWeek" "I", Cond.fieldLink RX0 72 "MarkdownPlanner$Plans" "ownStep" "I", Cond.fieldLink RX0 79 "MarkdownPlanner$Plans" "ownStock" "I", Cond.instanceMethod yX2_waitFrom, Cond.initialized RX2, Cond.selects RX2 yX2_waitFrom yX2_waitFrom, Cond.code yX2_waitFrom cX2_waitFrom 3 (some .int), Cond.fieldLink RX2 18 "MarkdownPlanner$Store" "markedDownIn" "I", Cond.methodLink RX2 28 Lib.Math.max.name, Cond.static Lib.Math.max.name, Cond.code Lib.Math.max.name Lib.Math.max.code 2 (some .int), Cond.instanceMethod yX2_wholeStock, Cond.selects RX2 yX2_wholeStock yX2_wholeStock, Cond.code yX2_wholeStock cX2_wholeStock 3 (some .int), Cond.fieldLink RX2 15 "MarkdownPlanner$Store" "pieces" "[I", Cond.instanceMethod yX0_bestStepIn, Cond.selects RX0 yX0_bestStepIn yX0_bestStepIn]
def wsX3_planned_r3 : List Cond := [Cond.code yX0_bestStepIn cX0_bestStepIn 7 (some .int), Cond.methodLink RX0 82 yX0_tellWorths, Cond.instanceMethod yX0_tellWorths, Cond.selects RX0 yX0_tellWorths yX0_tellWorths, Cond.code yX0_tellWorths cX0_tellWorths 5 none, Cond.fieldLink RX0 94 "MarkdownPlanner$Plans" "mostLeft" "I", Cond.fieldLink RX0 18 "MarkdownPlanner$Plans" "worths" "[I", Cond.methodLink RX0 97 yX0_placeOf, Cond.static yX0_placeOf, Cond.code yX0_placeOf cX0_placeOf 3 (some .int), Cond.methodLink RX0 100 yX0_worthOfChoosing, Cond.instanceMethod yX0_worthOfChoosing, Cond.selects RX0 yX0_worthOfChoosing yX0_worthOfChoosing, Cond.code yX0_worthOfChoosing cX0_worthOfChoosing 6 (some .int), Cond.methodLink RX0 106 Lib.Math.max.name, Cond.methodLink RX0 103 yX0_worthOfTaking, Cond.instanceMethod yX0_worthOfTaking, Cond.selects RX0 yX0_worthOfTaking yX0_worthOfTaking, Cond.code yX0_worthOfTaking cX0_worthOfTaking 5 (some .int), Cond.methodLink RX0 86 yX0_worthOfKeeping, Cond.instanceMethod yX0_worthOfKeeping, Cond.selects RX0 yX0_worthOfKeeping yX0_worthOfKeeping, Cond.code yX0_worthOfKeeping cX0_worthOfKeeping 8 (some .int), Cond.methodLink RX0 109 yX0_worthFrom]
def wsX3_planned_r4 : List Cond := [Cond.instanceMethod yX0_worthFrom, Cond.selects RX0 yX0_worthFrom yX0_worthFrom, Cond.code yX0_worthFrom cX0_worthFrom 4 (some .int), Cond.methodLink RX0 90 yX0_lowestBestStep, Cond.instanceMethod yX0_lowestBestStep, Cond.selects RX0 yX0_lowestBestStep yX0_lowestBestStep, Cond.code yX0_lowestBestStep cX0_lowestBestStep 6 (some .int)]
def wsX3_planned : List Cond := .code yX3_planned cX3_planned 4 (some .int) :: ((wsX3_planned_r1 ++ (wsX3_planned_r2 ++ (wsX3_planned_r3 ++ wsX3_planned_r4))) ++ wsX30 ++ wsX10 ++ wsX00 ++ wsX20 ++ (vx_atS RX3 109 "java/lang/IllegalArgumentException" ["java/lang/RuntimeException", "java/lang/Exception"]).filter goodWord)
def wsX3_bestLeaving_r1 : List Cond := [Cond.fieldLink RX3 25 "MarkdownPlanner" "plans" "LMarkdownPlanner$Plans;", Cond.fieldLink RX3 12 "MarkdownPlanner" "season" "LMarkdownPlanner$Season;", Cond.methodLink RX3 62 yX3_storeOf, Cond.instanceMethod yX3_storeOf, Cond.selects RX3 yX3_storeOf yX3_storeOf, Cond.initialized RX3, Cond.code yX3_storeOf cX3_storeOf 2 (some (.object "MarkdownPlanner$Store")), Cond.fieldLink RX3 18 "MarkdownPlanner" "stores" "[LMarkdownPlanner$Store;", Cond.methodLink RX3 30 yX3_requireWithin, Cond.static yX3_requireWithin, Cond.code yX3_requireWithin cX3_requireWithin 3 none, Cond.classLink RX3 105 "java/lang/IllegalArgumentException", Cond.initialized "java/lang/IllegalArgumentException", Cond.instanceMethod yX0_lookAt, Cond.initialized RX0, Cond.selects RX0 yX0_lookAt yX0_lookAt, Cond.code yX0_lookAt cX0_lookAt 3 none, Cond.fieldLink RX0 9 "MarkdownPlanner$Plans" "prices" "[I", Cond.methodLink RX0 27 arraycopyName, Cond.native arraycopyName, Cond.static arraycopyName, Cond.initialized "java/lang/System", Cond.fieldLink RX0 15 "MarkdownPlanner$Plans" "demands" "[I", Cond.fieldLink RX0 40 "MarkdownPlanner$Plans" "firstWeek" "I"]
def wsX3_bestLeaving_r2 : List Cond := [Cond.fieldLink RX0 46 "MarkdownPlanner$Plans" "endWeek" "I", Cond.fieldLink RX0 52 "MarkdownPlanner$Plans" "gap" "I", Cond.fieldLink RX0 56 "MarkdownPlanner$Plans" "remnant" "I", Cond.methodLink RX0 61 Lib.Math.min.name, Cond.static Lib.Math.min.name, Cond.initialized "java/lang/Math", Cond.code Lib.Math.min.name Lib.Math.min.code 2 (some .int), Cond.fieldLink RX0 66 "MarkdownPlanner$Plans" "freeWeek" "I", Cond.fieldLink RX0 72 "MarkdownPlanner$Plans" "ownStep" "I", Cond.fieldLink RX0 79 "MarkdownPlanner$Plans" "ownStock" "I", Cond.instanceMethod yX2_waitFrom, Cond.initialized RX2, Cond.selects RX2 yX2_waitFrom yX2_waitFrom, Cond.code yX2_waitFrom cX2_waitFrom 3 (some .int), Cond.fieldLink RX2 18 "MarkdownPlanner$Store" "markedDownIn" "I", Cond.methodLink RX2 28 Lib.Math.max.name, Cond.static Lib.Math.max.name, Cond.code Lib.Math.max.name Lib.Math.max.code 2 (some .int), Cond.instanceMethod yX2_wholeStock, Cond.selects RX2 yX2_wholeStock yX2_wholeStock, Cond.code yX2_wholeStock cX2_wholeStock 3 (some .int), Cond.fieldLink RX2 15 "MarkdownPlanner$Store" "pieces" "[I", Cond.instanceMethod yX0_greatestWorth, Cond.selects RX0 yX0_greatestWorth yX0_greatestWorth]
def wsX3_bestLeaving_r3 : List Cond := [Cond.code yX0_greatestWorth cX0_greatestWorth 2 (some .int), Cond.methodLink RX0 82 yX0_tellWorths, Cond.instanceMethod yX0_tellWorths, Cond.selects RX0 yX0_tellWorths yX0_tellWorths, Cond.code yX0_tellWorths cX0_tellWorths 5 none, Cond.fieldLink RX0 94 "MarkdownPlanner$Plans" "mostLeft" "I", Cond.fieldLink RX0 18 "MarkdownPlanner$Plans" "worths" "[I", Cond.methodLink RX0 97 yX0_placeOf, Cond.static yX0_placeOf, Cond.code yX0_placeOf cX0_placeOf 3 (some .int), Cond.methodLink RX0 100 yX0_worthOfChoosing, Cond.instanceMethod yX0_worthOfChoosing, Cond.selects RX0 yX0_worthOfChoosing yX0_worthOfChoosing, Cond.code yX0_worthOfChoosing cX0_worthOfChoosing 6 (some .int), Cond.methodLink RX0 106 Lib.Math.max.name, Cond.methodLink RX0 103 yX0_worthOfTaking, Cond.instanceMethod yX0_worthOfTaking, Cond.selects RX0 yX0_worthOfTaking yX0_worthOfTaking, Cond.code yX0_worthOfTaking cX0_worthOfTaking 5 (some .int), Cond.methodLink RX0 86 yX0_worthOfKeeping, Cond.instanceMethod yX0_worthOfKeeping, Cond.selects RX0 yX0_worthOfKeeping yX0_worthOfKeeping, Cond.code yX0_worthOfKeeping cX0_worthOfKeeping 8 (some .int), Cond.methodLink RX0 109 yX0_worthFrom]
def wsX3_bestLeaving_r4 : List Cond := [Cond.instanceMethod yX0_worthFrom, Cond.selects RX0 yX0_worthFrom yX0_worthFrom, Cond.code yX0_worthFrom cX0_worthFrom 4 (some .int)]
def wsX3_bestLeaving : List Cond := .code yX3_bestLeaving cX3_bestLeaving 4 (some .int) :: ((wsX3_bestLeaving_r1 ++ (wsX3_bestLeaving_r2 ++ (wsX3_bestLeaving_r3 ++ wsX3_bestLeaving_r4))) ++ wsX30 ++ wsX10 ++ wsX00 ++ wsX20 ++ (vx_atS RX3 109 "java/lang/IllegalArgumentException" ["java/lang/RuntimeException", "java/lang/Exception"]).filter goodWord)
def wsX4_init : List Cond := .code yX4_init cX4_init 2 none :: ([.methodLink RX4 1 objectInit, .instanceMethod objectInit, .code objectInit ⟨#[0xb1]⟩ 1 none, .fieldLink RX4 7 "MarkdownPlannerModel" "weeks" "I", .arrayClass .int, .fieldLink RX4 13 "MarkdownPlannerModel" "price" "[I", .fieldLink RX4 17 "MarkdownPlannerModel" "demand" "[I", .fieldLink RX4 20 "MarkdownPlannerModel" "gap" "I", .fieldLink RX4 23 "MarkdownPlannerModel" "stock" "[I", .fieldLink RX4 26 "MarkdownPlannerModel" "step" "[I", .fieldLink RX4 29 "MarkdownPlannerModel" "last" "[I", .fieldLink RX4 32 "MarkdownPlannerModel" "sold" "[I", .fieldLink RX4 35 "MarkdownPlannerModel" "worth" "[I"] ++ wsX40)
def wsX4_thrown : List Cond := .code yX4_thrown cX4_thrown 1 (some .int) :: ([.fieldLink RX4 38 "MarkdownPlannerModel" "thrown" "I"] ++ wsX40)
def wsX4_in : List Cond := .code yX4_in cX4_in 3 (some .boolean) :: ([])
def wsX4_asked : List Cond := .code yX4_asked cX4_asked 2 (some .boolean) :: ([.fieldLink RX4 38 "MarkdownPlannerModel" "thrown" "I"] ++ wsX40)
def wsX4_asked_ : List Cond := .code yX4_asked_ cX4_asked_ 3 (some .boolean) :: ([.fieldLink RX4 38 "MarkdownPlannerModel" "thrown" "I"] ++ wsX40)
def wsX4_told : List Cond := .code yX4_told cX4_told 2 (some .int) :: ([.fieldLink RX4 38 "MarkdownPlannerModel" "thrown" "I"] ++ wsX40)
def wsX4_isStore : List Cond := .code yX4_isStore cX4_isStore 1 (some .boolean) :: ([.methodLink RX4 41 yX4_in, .static yX4_in, .initialized RX4, .code yX4_in cX4_in 3 (some .boolean)])
def wsX4_isSize : List Cond := .code yX4_isSize cX4_isSize 1 (some .boolean) :: ([.methodLink RX4 41 yX4_in, .static yX4_in, .initialized RX4, .code yX4_in cX4_in 3 (some .boolean)])
def wsX4_isStep : List Cond := .code yX4_isStep cX4_isStep 1 (some .boolean) :: ([.methodLink RX4 41 yX4_in, .static yX4_in, .initialized RX4, .code yX4_in cX4_in 3 (some .boolean)])
def wsX4_whole : List Cond := .code yX4_whole cX4_whole 2 (some .int) :: ([.fieldLink RX4 23 "MarkdownPlannerModel" "stock" "[I"] ++ wsX40)
def wsX4_begin : List Cond := .code yX4_begin cX4_begin 4 (some .int) :: ([.fieldLink RX4 49 "MarkdownPlannerModel" "week" "I", .fieldLink RX4 7 "MarkdownPlannerModel" "weeks" "I", .fieldLink RX4 52 "MarkdownPlannerModel" "taken" "I", .fieldLink RX4 26 "MarkdownPlannerModel" "step" "[I", .fieldLink RX4 29 "MarkdownPlannerModel" "last" "[I", .fieldLink RX4 32 "MarkdownPlannerModel" "sold" "[I", .methodLink RX4 41 yX4_in, .static yX4_in, .initialized RX4, .code yX4_in cX4_in 3 (some .boolean), .methodLink RX4 45 yX4_asked, .instanceMethod yX4_asked, .selects RX4 yX4_asked yX4_asked, .code yX4_asked cX4_asked 2 (some .boolean), .fieldLink RX4 38 "MarkdownPlannerModel" "thrown" "I"] ++ wsX40)
def wsX4_setPrice : List Cond := .code yX4_setPrice cX4_setPrice 6 (some .int) :: ([.fieldLink RX4 13 "MarkdownPlannerModel" "price" "[I", .methodLink RX4 55 yX4_isStep, .static yX4_isStep, .initialized RX4, .code yX4_isStep cX4_isStep 1 (some .boolean), .methodLink RX4 41 yX4_in, .static yX4_in, .code yX4_in cX4_in 3 (some .boolean), .methodLink RX4 59 yX4_asked_, .instanceMethod yX4_asked_, .selects RX4 yX4_asked_ yX4_asked_, .code yX4_asked_ cX4_asked_ 3 (some .boolean), .fieldLink RX4 38 "MarkdownPlannerModel" "thrown" "I"] ++ wsX40)
def wsX4_setDemand : List Cond := .code yX4_setDemand cX4_setDemand 5 (some .int) :: ([.fieldLink RX4 17 "MarkdownPlannerModel" "demand" "[I", .methodLink RX4 62 yX4_isStore, .static yX4_isStore, .initialized RX4, .code yX4_isStore cX4_isStore 1 (some .boolean), .methodLink RX4 41 yX4_in, .static yX4_in, .code yX4_in cX4_in 3 (some .boolean), .methodLink RX4 55 yX4_isStep, .static yX4_isStep, .code yX4_isStep cX4_isStep 1 (some .boolean), .methodLink RX4 45 yX4_asked, .instanceMethod yX4_asked, .selects RX4 yX4_asked yX4_asked, .code yX4_asked cX4_asked 2 (some .boolean), .fieldLink RX4 38 "MarkdownPlannerModel" "thrown" "I"] ++ wsX40)
def wsX4_setRules : List Cond := .code yX4_setRules cX4_setRules 4 none :: ([.fieldLink RX4 20 "MarkdownPlannerModel" "gap" "I", .fieldLink RX4 65 "MarkdownPlannerModel" "remnant" "I", .fieldLink RX4 68 "MarkdownPlannerModel" "moving" "I", .methodLink RX4 41 yX4_in, .static yX4_in, .initialized RX4, .code yX4_in cX4_in 3 (some .boolean), .methodLink RX4 45 yX4_asked, .instanceMethod yX4_asked, .selects RX4 yX4_asked yX4_asked, .code yX4_asked cX4_asked 2 (some .boolean), .fieldLink RX4 38 "MarkdownPlannerModel" "thrown" "I"] ++ wsX40)
def wsX4_put : List Cond := .code yX4_put cX4_put 5 (some .int) :: ([.fieldLink RX4 23 "MarkdownPlannerModel" "stock" "[I", .methodLink RX4 62 yX4_isStore, .static yX4_isStore, .initialized RX4, .code yX4_isStore cX4_isStore 1 (some .boolean), .methodLink RX4 41 yX4_in, .static yX4_in, .code yX4_in cX4_in 3 (some .boolean), .methodLink RX4 71 yX4_isSize, .static yX4_isSize, .code yX4_isSize cX4_isSize 1 (some .boolean), .methodLink RX4 74 yX4_whole, .instanceMethod yX4_whole, .selects RX4 yX4_whole yX4_whole, .code yX4_whole cX4_whole 2 (some .int), .methodLink RX4 59 yX4_asked_, .instanceMethod yX4_asked_, .selects RX4 yX4_asked_ yX4_asked_, .code yX4_asked_ cX4_asked_ 3 (some .boolean), .fieldLink RX4 38 "MarkdownPlannerModel" "thrown" "I"] ++ wsX40)
def wsX4_waits : List Cond := .code yX4_waits cX4_waits 3 (some .int) :: ([.fieldLink RX4 29 "MarkdownPlannerModel" "last" "[I", .fieldLink RX4 20 "MarkdownPlannerModel" "gap" "I", .fieldLink RX4 49 "MarkdownPlannerModel" "week" "I"] ++ wsX40)
def wsX4_markDown_r1 : List Cond := [Cond.fieldLink RX4 49 "MarkdownPlannerModel" "week" "I", Cond.fieldLink RX4 7 "MarkdownPlannerModel" "weeks" "I", Cond.fieldLink RX4 26 "MarkdownPlannerModel" "step" "[I", Cond.fieldLink RX4 29 "MarkdownPlannerModel" "last" "[I", Cond.fieldLink RX4 13 "MarkdownPlannerModel" "price" "[I", Cond.methodLink RX4 62 yX4_isStore, Cond.static yX4_isStore, Cond.initialized RX4, Cond.code yX4_isStore cX4_isStore 1 (some .boolean), Cond.methodLink RX4 41 yX4_in, Cond.static yX4_in, Cond.code yX4_in cX4_in 3 (some .boolean), Cond.methodLink RX4 55 yX4_isStep, Cond.static yX4_isStep, Cond.code yX4_isStep cX4_isStep 1 (some .boolean), Cond.methodLink RX4 78 yX4_waits, Cond.instanceMethod yX4_waits, Cond.selects RX4 yX4_waits yX4_waits, Cond.code yX4_waits cX4_waits 3 (some .int), Cond.fieldLink RX4 20 "MarkdownPlannerModel" "gap" "I", Cond.methodLink RX4 59 yX4_asked_, Cond.instanceMethod yX4_asked_, Cond.selects RX4 yX4_asked_ yX4_asked_, Cond.code yX4_asked_ cX4_asked_ 3 (some .boolean)]
def wsX4_markDown_r2 : List Cond := [Cond.fieldLink RX4 38 "MarkdownPlannerModel" "thrown" "I"]
def wsX4_markDown : List Cond := .code yX4_markDown cX4_markDown 4 (some .int) :: ((wsX4_markDown_r1 ++ wsX4_markDown_r2) ++ wsX40)
def wsX4_move : List Cond := .code yX4_move cX4_move 6 (some .int) :: ([.fieldLink RX4 49 "MarkdownPlannerModel" "week" "I", .fieldLink RX4 7 "MarkdownPlannerModel" "weeks" "I", .fieldLink RX4 23 "MarkdownPlannerModel" "stock" "[I", .fieldLink RX4 52 "MarkdownPlannerModel" "taken" "I", .fieldLink RX4 68 "MarkdownPlannerModel" "moving" "I", .methodLink RX4 62 yX4_isStore, .static yX4_isStore, .initialized RX4, .code yX4_isStore cX4_isStore 1 (some .boolean), .methodLink RX4 41 yX4_in, .static yX4_in, .code yX4_in cX4_in 3 (some .boolean), .methodLink RX4 71 yX4_isSize, .static yX4_isSize, .code yX4_isSize cX4_isSize 1 (some .boolean), .methodLink RX4 74 yX4_whole, .instanceMethod yX4_whole, .selects RX4 yX4_whole yX4_whole, .code yX4_whole cX4_whole 2 (some .int), .methodLink RX4 59 yX4_asked_, .instanceMethod yX4_asked_, .selects RX4 yX4_asked_ yX4_asked_, .code yX4_asked_ cX4_asked_ 3 (some .boolean), .fieldLink RX4 38 "MarkdownPlannerModel" "thrown" "I"] ++ wsX40)
def wsX4_sells : List Cond := .code yX4_sells cX4_sells 5 (some .int) :: ([.fieldLink RX4 23 "MarkdownPlannerModel" "stock" "[I", .fieldLink RX4 17 "MarkdownPlannerModel" "demand" "[I", .methodLink RX4 74 yX4_whole, .instanceMethod yX4_whole, .selects RX4 yX4_whole yX4_whole, .initialized RX4, .code yX4_whole cX4_whole 2 (some .int)] ++ wsX40)
def wsX4_run : List Cond := .code yX4_run cX4_run 6 (some .int) :: ([.fieldLink RX4 49 "MarkdownPlannerModel" "week" "I", .fieldLink RX4 7 "MarkdownPlannerModel" "weeks" "I", .fieldLink RX4 26 "MarkdownPlannerModel" "step" "[I", .fieldLink RX4 23 "MarkdownPlannerModel" "stock" "[I", .fieldLink RX4 32 "MarkdownPlannerModel" "sold" "[I", .fieldLink RX4 13 "MarkdownPlannerModel" "price" "[I", .fieldLink RX4 52 "MarkdownPlannerModel" "taken" "I", .methodLink RX4 45 yX4_asked, .instanceMethod yX4_asked, .selects RX4 yX4_asked yX4_asked, .initialized RX4, .code yX4_asked cX4_asked 2 (some .boolean), .fieldLink RX4 38 "MarkdownPlannerModel" "thrown" "I", .methodLink RX4 81 yX4_sells, .instanceMethod yX4_sells, .selects RX4 yX4_sells yX4_sells, .code yX4_sells cX4_sells 5 (some .int), .fieldLink RX4 17 "MarkdownPlannerModel" "demand" "[I", .methodLink RX4 74 yX4_whole, .instanceMethod yX4_whole, .selects RX4 yX4_whole yX4_whole, .code yX4_whole cX4_whole 2 (some .int)] ++ wsX40)
def wsX4_week : List Cond := .code yX4_week cX4_week 1 (some .int) :: ([.fieldLink RX4 49 "MarkdownPlannerModel" "week" "I", .methodLink RX4 85 yX4_told, .instanceMethod yX4_told, .selects RX4 yX4_told yX4_told, .initialized RX4, .code yX4_told cX4_told 2 (some .int), .fieldLink RX4 38 "MarkdownPlannerModel" "thrown" "I"] ++ wsX40)
def wsX4_stock : List Cond := .code yX4_stock cX4_stock 3 (some .int) :: ([.fieldLink RX4 23 "MarkdownPlannerModel" "stock" "[I", .methodLink RX4 62 yX4_isStore, .static yX4_isStore, .initialized RX4, .code yX4_isStore cX4_isStore 1 (some .boolean), .methodLink RX4 41 yX4_in, .static yX4_in, .code yX4_in cX4_in 3 (some .boolean), .methodLink RX4 71 yX4_isSize, .static yX4_isSize, .code yX4_isSize cX4_isSize 1 (some .boolean), .methodLink RX4 45 yX4_asked, .instanceMethod yX4_asked, .selects RX4 yX4_asked yX4_asked, .code yX4_asked cX4_asked 2 (some .boolean), .fieldLink RX4 38 "MarkdownPlannerModel" "thrown" "I"] ++ wsX40)
def wsX4_step : List Cond := .code yX4_step cX4_step 2 (some .int) :: ([.fieldLink RX4 26 "MarkdownPlannerModel" "step" "[I", .methodLink RX4 62 yX4_isStore, .static yX4_isStore, .initialized RX4, .code yX4_isStore cX4_isStore 1 (some .boolean), .methodLink RX4 41 yX4_in, .static yX4_in, .code yX4_in cX4_in 3 (some .boolean), .methodLink RX4 45 yX4_asked, .instanceMethod yX4_asked, .selects RX4 yX4_asked yX4_asked, .code yX4_asked cX4_asked 2 (some .boolean), .fieldLink RX4 38 "MarkdownPlannerModel" "thrown" "I"] ++ wsX40)
def wsX4_weeksToWait : List Cond := .code yX4_weeksToWait cX4_weeksToWait 2 (some .int) :: ([.methodLink RX4 62 yX4_isStore, .static yX4_isStore, .initialized RX4, .code yX4_isStore cX4_isStore 1 (some .boolean), .methodLink RX4 41 yX4_in, .static yX4_in, .code yX4_in cX4_in 3 (some .boolean), .methodLink RX4 45 yX4_asked, .instanceMethod yX4_asked, .selects RX4 yX4_asked yX4_asked, .code yX4_asked cX4_asked 2 (some .boolean), .fieldLink RX4 38 "MarkdownPlannerModel" "thrown" "I", .methodLink RX4 78 yX4_waits, .instanceMethod yX4_waits, .selects RX4 yX4_waits yX4_waits, .code yX4_waits cX4_waits 3 (some .int), .fieldLink RX4 29 "MarkdownPlannerModel" "last" "[I", .fieldLink RX4 20 "MarkdownPlannerModel" "gap" "I", .fieldLink RX4 49 "MarkdownPlannerModel" "week" "I"] ++ wsX40)
def wsX4_sold : List Cond := .code yX4_sold cX4_sold 2 (some .int) :: ([.fieldLink RX4 32 "MarkdownPlannerModel" "sold" "[I", .methodLink RX4 62 yX4_isStore, .static yX4_isStore, .initialized RX4, .code yX4_isStore cX4_isStore 1 (some .boolean), .methodLink RX4 41 yX4_in, .static yX4_in, .code yX4_in cX4_in 3 (some .boolean), .methodLink RX4 45 yX4_asked, .instanceMethod yX4_asked, .selects RX4 yX4_asked yX4_asked, .code yX4_asked cX4_asked 2 (some .boolean), .fieldLink RX4 38 "MarkdownPlannerModel" "thrown" "I"] ++ wsX40)
def wsX4_taken : List Cond := .code yX4_taken cX4_taken 1 (some .int) :: ([.fieldLink RX4 52 "MarkdownPlannerModel" "taken" "I", .methodLink RX4 85 yX4_told, .instanceMethod yX4_told, .selects RX4 yX4_told yX4_told, .initialized RX4, .code yX4_told cX4_told 2 (some .int), .fieldLink RX4 38 "MarkdownPlannerModel" "thrown" "I"] ++ wsX40)
def wsX4_wouldSell_r1 : List Cond := [Cond.methodLink RX4 62 yX4_isStore, Cond.static yX4_isStore, Cond.initialized RX4, Cond.code yX4_isStore cX4_isStore 1 (some .boolean), Cond.methodLink RX4 41 yX4_in, Cond.static yX4_in, Cond.code yX4_in cX4_in 3 (some .boolean), Cond.methodLink RX4 55 yX4_isStep, Cond.static yX4_isStep, Cond.code yX4_isStep cX4_isStep 1 (some .boolean), Cond.methodLink RX4 45 yX4_asked, Cond.instanceMethod yX4_asked, Cond.selects RX4 yX4_asked yX4_asked, Cond.code yX4_asked cX4_asked 2 (some .boolean), Cond.fieldLink RX4 38 "MarkdownPlannerModel" "thrown" "I", Cond.methodLink RX4 81 yX4_sells, Cond.instanceMethod yX4_sells, Cond.selects RX4 yX4_sells yX4_sells, Cond.code yX4_sells cX4_sells 5 (some .int), Cond.fieldLink RX4 23 "MarkdownPlannerModel" "stock" "[I", Cond.fieldLink RX4 17 "MarkdownPlannerModel" "demand" "[I", Cond.methodLink RX4 74 yX4_whole, Cond.instanceMethod yX4_whole, Cond.selects RX4 yX4_whole yX4_whole]
def wsX4_wouldSell_r2 : List Cond := [Cond.code yX4_whole cX4_whole 2 (some .int)]
def wsX4_wouldSell : List Cond := .code yX4_wouldSell cX4_wouldSell 3 (some .int) :: ((wsX4_wouldSell_r1 ++ wsX4_wouldSell_r2) ++ wsX40)
def wsX4_at : List Cond := .code yX4_at cX4_at 4 (some .int) :: ([])
def wsX4_worthOf : List Cond := .code yX4_worthOf cX4_worthOf 10 (some .int) :: ([.fieldLink RX4 17 "MarkdownPlannerModel" "demand" "[I", .fieldLink RX4 20 "MarkdownPlannerModel" "gap" "I", .fieldLink RX4 35 "MarkdownPlannerModel" "worth" "[I", .fieldLink RX4 13 "MarkdownPlannerModel" "price" "[I", .methodLink RX4 88 yX4_at, .static yX4_at, .initialized RX4, .code yX4_at cX4_at 4 (some .int)] ++ wsX40)
def wsX4_finds_r1 : List Cond := [Cond.fieldLink RX4 35 "MarkdownPlannerModel" "worth" "[I", Cond.fieldLink RX4 7 "MarkdownPlannerModel" "weeks" "I", Cond.fieldLink RX4 65 "MarkdownPlannerModel" "remnant" "I", Cond.fieldLink RX4 49 "MarkdownPlannerModel" "week" "I", Cond.fieldLink RX4 26 "MarkdownPlannerModel" "step" "[I", Cond.methodLink RX4 92 yX4_worthOf, Cond.instanceMethod yX4_worthOf, Cond.selects RX4 yX4_worthOf yX4_worthOf, Cond.initialized RX4, Cond.code yX4_worthOf cX4_worthOf 10 (some .int), Cond.fieldLink RX4 17 "MarkdownPlannerModel" "demand" "[I", Cond.fieldLink RX4 20 "MarkdownPlannerModel" "gap" "I", Cond.fieldLink RX4 13 "MarkdownPlannerModel" "price" "[I", Cond.methodLink RX4 88 yX4_at, Cond.static yX4_at, Cond.code yX4_at cX4_at 4 (some .int), Cond.methodLink RX4 78 yX4_waits, Cond.instanceMethod yX4_waits, Cond.selects RX4 yX4_waits yX4_waits, Cond.code yX4_waits cX4_waits 3 (some .int), Cond.fieldLink RX4 29 "MarkdownPlannerModel" "last" "[I", Cond.methodLink RX4 74 yX4_whole, Cond.instanceMethod yX4_whole, Cond.selects RX4 yX4_whole yX4_whole]
def wsX4_finds_r2 : List Cond := [Cond.code yX4_whole cX4_whole 2 (some .int), Cond.fieldLink RX4 23 "MarkdownPlannerModel" "stock" "[I"]
def wsX4_finds : List Cond := .code yX4_finds cX4_finds 9 (some .int) :: ((wsX4_finds_r1 ++ wsX4_finds_r2) ++ wsX40)
def wsX4_best_r1 : List Cond := [Cond.methodLink RX4 62 yX4_isStore, Cond.static yX4_isStore, Cond.initialized RX4, Cond.code yX4_isStore cX4_isStore 1 (some .boolean), Cond.methodLink RX4 41 yX4_in, Cond.static yX4_in, Cond.code yX4_in cX4_in 3 (some .boolean), Cond.methodLink RX4 45 yX4_asked, Cond.instanceMethod yX4_asked, Cond.selects RX4 yX4_asked yX4_asked, Cond.code yX4_asked cX4_asked 2 (some .boolean), Cond.fieldLink RX4 38 "MarkdownPlannerModel" "thrown" "I", Cond.methodLink RX4 96 yX4_finds, Cond.instanceMethod yX4_finds, Cond.selects RX4 yX4_finds yX4_finds, Cond.code yX4_finds cX4_finds 9 (some .int), Cond.fieldLink RX4 35 "MarkdownPlannerModel" "worth" "[I", Cond.fieldLink RX4 7 "MarkdownPlannerModel" "weeks" "I", Cond.fieldLink RX4 65 "MarkdownPlannerModel" "remnant" "I", Cond.fieldLink RX4 49 "MarkdownPlannerModel" "week" "I", Cond.fieldLink RX4 26 "MarkdownPlannerModel" "step" "[I", Cond.methodLink RX4 92 yX4_worthOf, Cond.instanceMethod yX4_worthOf, Cond.selects RX4 yX4_worthOf yX4_worthOf]
def wsX4_best_r2 : List Cond := [Cond.code yX4_worthOf cX4_worthOf 10 (some .int), Cond.fieldLink RX4 17 "MarkdownPlannerModel" "demand" "[I", Cond.fieldLink RX4 20 "MarkdownPlannerModel" "gap" "I", Cond.fieldLink RX4 13 "MarkdownPlannerModel" "price" "[I", Cond.methodLink RX4 88 yX4_at, Cond.static yX4_at, Cond.code yX4_at cX4_at 4 (some .int), Cond.methodLink RX4 78 yX4_waits, Cond.instanceMethod yX4_waits, Cond.selects RX4 yX4_waits yX4_waits, Cond.code yX4_waits cX4_waits 3 (some .int), Cond.fieldLink RX4 29 "MarkdownPlannerModel" "last" "[I", Cond.methodLink RX4 74 yX4_whole, Cond.instanceMethod yX4_whole, Cond.selects RX4 yX4_whole yX4_whole, Cond.code yX4_whole cX4_whole 2 (some .int), Cond.fieldLink RX4 23 "MarkdownPlannerModel" "stock" "[I"]
def wsX4_best : List Cond := .code yX4_best cX4_best 2 (some .int) :: ((wsX4_best_r1 ++ wsX4_best_r2) ++ wsX40)
def wsX4_bestByAll_r1 : List Cond := [Cond.fieldLink RX4 7 "MarkdownPlannerModel" "weeks" "I", Cond.fieldLink RX4 49 "MarkdownPlannerModel" "week" "I", Cond.methodLink RX4 62 yX4_isStore, Cond.static yX4_isStore, Cond.initialized RX4, Cond.code yX4_isStore cX4_isStore 1 (some .boolean), Cond.methodLink RX4 41 yX4_in, Cond.static yX4_in, Cond.code yX4_in cX4_in 3 (some .boolean), Cond.methodLink RX4 59 yX4_asked_, Cond.instanceMethod yX4_asked_, Cond.selects RX4 yX4_asked_ yX4_asked_, Cond.code yX4_asked_ cX4_asked_ 3 (some .boolean), Cond.fieldLink RX4 38 "MarkdownPlannerModel" "thrown" "I", Cond.methodLink RX4 96 yX4_finds, Cond.instanceMethod yX4_finds, Cond.selects RX4 yX4_finds yX4_finds, Cond.code yX4_finds cX4_finds 9 (some .int), Cond.fieldLink RX4 35 "MarkdownPlannerModel" "worth" "[I", Cond.fieldLink RX4 65 "MarkdownPlannerModel" "remnant" "I", Cond.fieldLink RX4 26 "MarkdownPlannerModel" "step" "[I", Cond.methodLink RX4 92 yX4_worthOf, Cond.instanceMethod yX4_worthOf, Cond.selects RX4 yX4_worthOf yX4_worthOf]
def wsX4_bestByAll_r2 : List Cond := [Cond.code yX4_worthOf cX4_worthOf 10 (some .int), Cond.fieldLink RX4 17 "MarkdownPlannerModel" "demand" "[I", Cond.fieldLink RX4 20 "MarkdownPlannerModel" "gap" "I", Cond.fieldLink RX4 13 "MarkdownPlannerModel" "price" "[I", Cond.methodLink RX4 88 yX4_at, Cond.static yX4_at, Cond.code yX4_at cX4_at 4 (some .int), Cond.methodLink RX4 78 yX4_waits, Cond.instanceMethod yX4_waits, Cond.selects RX4 yX4_waits yX4_waits, Cond.code yX4_waits cX4_waits 3 (some .int), Cond.fieldLink RX4 29 "MarkdownPlannerModel" "last" "[I", Cond.methodLink RX4 74 yX4_whole, Cond.instanceMethod yX4_whole, Cond.selects RX4 yX4_whole yX4_whole, Cond.code yX4_whole cX4_whole 2 (some .int), Cond.fieldLink RX4 23 "MarkdownPlannerModel" "stock" "[I"]
def wsX4_bestByAll : List Cond := .code yX4_bestByAll cX4_bestByAll 3 (some .int) :: ((wsX4_bestByAll_r1 ++ wsX4_bestByAll_r2) ++ wsX40)
def wsX4_planned_r1 : List Cond := [Cond.fieldLink RX4 49 "MarkdownPlannerModel" "week" "I", Cond.fieldLink RX4 7 "MarkdownPlannerModel" "weeks" "I", Cond.fieldLink RX4 26 "MarkdownPlannerModel" "step" "[I", Cond.fieldLink RX4 17 "MarkdownPlannerModel" "demand" "[I", Cond.fieldLink RX4 13 "MarkdownPlannerModel" "price" "[I", Cond.fieldLink RX4 20 "MarkdownPlannerModel" "gap" "I", Cond.methodLink RX4 62 yX4_isStore, Cond.static yX4_isStore, Cond.initialized RX4, Cond.code yX4_isStore cX4_isStore 1 (some .boolean), Cond.methodLink RX4 41 yX4_in, Cond.static yX4_in, Cond.code yX4_in cX4_in 3 (some .boolean), Cond.methodLink RX4 45 yX4_asked, Cond.instanceMethod yX4_asked, Cond.selects RX4 yX4_asked yX4_asked, Cond.code yX4_asked cX4_asked 2 (some .boolean), Cond.fieldLink RX4 38 "MarkdownPlannerModel" "thrown" "I", Cond.methodLink RX4 96 yX4_finds, Cond.instanceMethod yX4_finds, Cond.selects RX4 yX4_finds yX4_finds, Cond.code yX4_finds cX4_finds 9 (some .int), Cond.fieldLink RX4 35 "MarkdownPlannerModel" "worth" "[I", Cond.fieldLink RX4 65 "MarkdownPlannerModel" "remnant" "I"]
def wsX4_planned_r2 : List Cond := [Cond.methodLink RX4 92 yX4_worthOf, Cond.instanceMethod yX4_worthOf, Cond.selects RX4 yX4_worthOf yX4_worthOf, Cond.code yX4_worthOf cX4_worthOf 10 (some .int), Cond.methodLink RX4 88 yX4_at, Cond.static yX4_at, Cond.code yX4_at cX4_at 4 (some .int), Cond.methodLink RX4 78 yX4_waits, Cond.instanceMethod yX4_waits, Cond.selects RX4 yX4_waits yX4_waits, Cond.code yX4_waits cX4_waits 3 (some .int), Cond.fieldLink RX4 29 "MarkdownPlannerModel" "last" "[I", Cond.methodLink RX4 74 yX4_whole, Cond.instanceMethod yX4_whole, Cond.selects RX4 yX4_whole yX4_whole, Cond.code yX4_whole cX4_whole 2 (some .int), Cond.fieldLink RX4 23 "MarkdownPlannerModel" "stock" "[I"]
def wsX4_planned : List Cond := .code yX4_planned cX4_planned 10 (some .int) :: ((wsX4_planned_r1 ++ wsX4_planned_r2) ++ wsX40)
def wsX4_bestLeaving_r1 : List Cond := [Cond.methodLink RX4 62 yX4_isStore, Cond.static yX4_isStore, Cond.initialized RX4, Cond.code yX4_isStore cX4_isStore 1 (some .boolean), Cond.methodLink RX4 41 yX4_in, Cond.static yX4_in, Cond.code yX4_in cX4_in 3 (some .boolean), Cond.methodLink RX4 45 yX4_asked, Cond.instanceMethod yX4_asked, Cond.selects RX4 yX4_asked yX4_asked, Cond.code yX4_asked cX4_asked 2 (some .boolean), Cond.fieldLink RX4 38 "MarkdownPlannerModel" "thrown" "I", Cond.methodLink RX4 96 yX4_finds, Cond.instanceMethod yX4_finds, Cond.selects RX4 yX4_finds yX4_finds, Cond.code yX4_finds cX4_finds 9 (some .int), Cond.fieldLink RX4 35 "MarkdownPlannerModel" "worth" "[I", Cond.fieldLink RX4 7 "MarkdownPlannerModel" "weeks" "I", Cond.fieldLink RX4 65 "MarkdownPlannerModel" "remnant" "I", Cond.fieldLink RX4 49 "MarkdownPlannerModel" "week" "I", Cond.fieldLink RX4 26 "MarkdownPlannerModel" "step" "[I", Cond.methodLink RX4 92 yX4_worthOf, Cond.instanceMethod yX4_worthOf, Cond.selects RX4 yX4_worthOf yX4_worthOf]
def wsX4_bestLeaving_r2 : List Cond := [Cond.code yX4_worthOf cX4_worthOf 10 (some .int), Cond.fieldLink RX4 17 "MarkdownPlannerModel" "demand" "[I", Cond.fieldLink RX4 20 "MarkdownPlannerModel" "gap" "I", Cond.fieldLink RX4 13 "MarkdownPlannerModel" "price" "[I", Cond.methodLink RX4 88 yX4_at, Cond.static yX4_at, Cond.code yX4_at cX4_at 4 (some .int), Cond.methodLink RX4 78 yX4_waits, Cond.instanceMethod yX4_waits, Cond.selects RX4 yX4_waits yX4_waits, Cond.code yX4_waits cX4_waits 3 (some .int), Cond.fieldLink RX4 29 "MarkdownPlannerModel" "last" "[I", Cond.methodLink RX4 74 yX4_whole, Cond.instanceMethod yX4_whole, Cond.selects RX4 yX4_whole yX4_whole, Cond.code yX4_whole cX4_whole 2 (some .int), Cond.fieldLink RX4 23 "MarkdownPlannerModel" "stock" "[I"]
def wsX4_bestLeaving : List Cond := .code yX4_bestLeaving cX4_bestLeaving 3 (some .int) :: ((wsX4_bestLeaving_r1 ++ wsX4_bestLeaving_r2) ++ wsX40)
def wsJ9_max_7cf53 : List Cond := .code yJ9_max_7cf53 cJ9_max_7cf53 2 (some .int) :: ([])
def wsJ9_min_7cf53 : List Cond := .code yJ9_min_7cf53 cJ9_min_7cf53 2 (some .int) :: ([])
def wsL_begin_r1 : List Cond := [Cond.classLink RL 13 "java/lang/IllegalArgumentException", Cond.methodLink RL 7 yX3_begin, Cond.instanceMethod yX3_begin, Cond.selects RX3 yX3_begin yX3_begin, Cond.initialized RX3, Cond.code yX3_begin cX3_begin 7 (some .int), Cond.fieldLink RX3 12 "MarkdownPlanner" "season" "LMarkdownPlanner$Season;", Cond.fieldLink RX3 18 "MarkdownPlanner" "stores" "[LMarkdownPlanner$Store;", Cond.methodLink RX3 30 yX3_requireWithin, Cond.static yX3_requireWithin, Cond.code yX3_requireWithin cX3_requireWithin 3 none, Cond.classLink RX3 105 "java/lang/IllegalArgumentException", Cond.initialized "java/lang/IllegalArgumentException", Cond.instanceMethod yX1_startAnew, Cond.initialized RX1, Cond.selects RX1 yX1_startAnew yX1_startAnew, Cond.code yX1_startAnew cX1_startAnew 2 none, Cond.fieldLink RX1 15 "MarkdownPlanner$Season" "weeks" "I", Cond.fieldLink RX1 22 "MarkdownPlanner$Season" "week" "I", Cond.fieldLink RX1 25 "MarkdownPlanner$Season" "taken" "I", Cond.instanceMethod yX2_startAnew, Cond.initialized RX2, Cond.selects RX2 yX2_startAnew yX2_startAnew, Cond.code yX2_startAnew cX2_startAnew 1 none]
def wsL_begin_r2 : List Cond := [Cond.fieldLink RX2 22 "MarkdownPlanner$Store" "step" "I", Cond.fieldLink RX2 18 "MarkdownPlanner$Store" "markedDownIn" "I", Cond.fieldLink RX2 25 "MarkdownPlanner$Store" "piecesSold" "I"]
def wsL_begin : List Cond := .codeWith yL_begin cL_begin 4 (some .int) [(0, 9, 12, 13)] :: ((wsL_begin_r1 ++ wsL_begin_r2) ++ wsX30 ++ wsX10 ++ wsX20 ++ (vx_atS RX3 109 "java/lang/IllegalArgumentException" ["java/lang/RuntimeException", "java/lang/Exception"]).filter goodWord)
def wsL_setPrice : List Cond := .codeWith yL_setPrice cL_setPrice 5 (some .int) [(0, 10, 13, 13), (0, 10, 17, 19)] :: ([.classLink RL 13 "java/lang/IllegalArgumentException", .classLink RL 19 "java/lang/IllegalStateException", .methodLink RL 15 yX3_setPrice, .instanceMethod yX3_setPrice, .selects RX3 yX3_setPrice yX3_setPrice, .initialized RX3, .code yX3_setPrice cX3_setPrice 4 (some .int), .classLink RX3 51 "java/lang/IllegalStateException", .initialized "java/lang/IllegalStateException", .fieldLink RX3 12 "MarkdownPlanner" "season" "LMarkdownPlanner$Season;", .methodLink RX3 44 yX3_requireStep, .static yX3_requireStep, .code yX3_requireStep cX3_requireStep 1 none, .methodLink RX3 30 yX3_requireWithin, .static yX3_requireWithin, .code yX3_requireWithin cX3_requireWithin 3 none, .classLink RX3 105 "java/lang/IllegalArgumentException", .initialized "java/lang/IllegalArgumentException", .instanceMethod yX1_keepsLadderDown, .initialized RX1, .selects RX1 yX1_keepsLadderDown yX1_keepsLadderDown, .code yX1_keepsLadderDown cX1_keepsLadderDown 5 (some .boolean), .fieldLink RX1 9 "MarkdownPlanner$Season" "prices" "[I"] ++ wsX30 ++ wsX10 ++ (vx_atS RX3 55 "java/lang/IllegalStateException" ["java/lang/RuntimeException", "java/lang/Exception"]).filter goodWord ++ (vx_atS RX3 109 "java/lang/IllegalArgumentException" ["java/lang/RuntimeException", "java/lang/Exception"]).filter goodWord)
def wsL_setDemand : List Cond := .codeWith yL_setDemand cL_setDemand 6 (some .int) [(0, 12, 15, 13)] :: ([.classLink RL 13 "java/lang/IllegalArgumentException", .methodLink RL 21 yX3_setDemand, .instanceMethod yX3_setDemand, .selects RX3 yX3_setDemand yX3_setDemand, .initialized RX3, .code yX3_setDemand cX3_setDemand 6 (some .int), .methodLink RX3 62 yX3_storeOf, .instanceMethod yX3_storeOf, .selects RX3 yX3_storeOf yX3_storeOf, .code yX3_storeOf cX3_storeOf 2 (some (.object "MarkdownPlanner$Store")), .fieldLink RX3 18 "MarkdownPlanner" "stores" "[LMarkdownPlanner$Store;", .methodLink RX3 30 yX3_requireWithin, .static yX3_requireWithin, .code yX3_requireWithin cX3_requireWithin 3 none, .classLink RX3 105 "java/lang/IllegalArgumentException", .initialized "java/lang/IllegalArgumentException", .methodLink RX3 44 yX3_requireStep, .static yX3_requireStep, .code yX3_requireStep cX3_requireStep 1 none] ++ wsX20 ++ wsX30 ++ (vx_atS RX3 109 "java/lang/IllegalArgumentException" ["java/lang/RuntimeException", "java/lang/Exception"]).filter goodWord)
def wsL_setRules : List Cond := .codeWith yL_setRules cL_setRules 5 (some .int) [(0, 7, 10, 13)] :: ([.classLink RL 13 "java/lang/IllegalArgumentException", .methodLink RL 25 yX3_setRules, .instanceMethod yX3_setRules, .selects RX3 yX3_setRules yX3_setRules, .initialized RX3, .code yX3_setRules cX3_setRules 4 none, .fieldLink RX3 12 "MarkdownPlanner" "season" "LMarkdownPlanner$Season;", .methodLink RX3 30 yX3_requireWithin, .static yX3_requireWithin, .code yX3_requireWithin cX3_requireWithin 3 none, .classLink RX3 105 "java/lang/IllegalArgumentException", .initialized "java/lang/IllegalArgumentException"] ++ wsX30 ++ wsX10 ++ (vx_atS RX3 109 "java/lang/IllegalArgumentException" ["java/lang/RuntimeException", "java/lang/Exception"]).filter goodWord)
def wsL_put_r1 : List Cond := [Cond.classLink RL 13 "java/lang/IllegalArgumentException", Cond.classLink RL 19 "java/lang/IllegalStateException", Cond.methodLink RL 29 yX3_put, Cond.instanceMethod yX3_put, Cond.selects RX3 yX3_put yX3_put, Cond.initialized RX3, Cond.code yX3_put cX3_put 5 (some .int), Cond.methodLink RX3 62 yX3_storeOf, Cond.instanceMethod yX3_storeOf, Cond.selects RX3 yX3_storeOf yX3_storeOf, Cond.code yX3_storeOf cX3_storeOf 2 (some (.object "MarkdownPlanner$Store")), Cond.fieldLink RX3 18 "MarkdownPlanner" "stores" "[LMarkdownPlanner$Store;", Cond.methodLink RX3 30 yX3_requireWithin, Cond.static yX3_requireWithin, Cond.code yX3_requireWithin cX3_requireWithin 3 none, Cond.classLink RX3 105 "java/lang/IllegalArgumentException", Cond.initialized "java/lang/IllegalArgumentException", Cond.methodLink RX3 78 yX3_requireSize, Cond.static yX3_requireSize, Cond.code yX3_requireSize cX3_requireSize 1 none, Cond.methodLink RX3 81 yX3_requireRoomFor, Cond.static yX3_requireRoomFor, Cond.code yX3_requireRoomFor cX3_requireRoomFor 2 none, Cond.classLink RX3 51 "java/lang/IllegalStateException"]
def wsL_put_r2 : List Cond := [Cond.initialized "java/lang/IllegalStateException", Cond.instanceMethod yX2_wholeStock, Cond.initialized RX2, Cond.selects RX2 yX2_wholeStock yX2_wholeStock, Cond.code yX2_wholeStock cX2_wholeStock 3 (some .int), Cond.fieldLink RX2 15 "MarkdownPlanner$Store" "pieces" "[I"]
def wsL_put : List Cond := .codeWith yL_put cL_put 6 (some .int) [(0, 12, 15, 13), (0, 12, 19, 19)] :: ((wsL_put_r1 ++ wsL_put_r2) ++ wsX20 ++ wsX30 ++ (vx_atS RX3 109 "java/lang/IllegalArgumentException" ["java/lang/RuntimeException", "java/lang/Exception"]).filter goodWord ++ (vx_atS RX3 55 "java/lang/IllegalStateException" ["java/lang/RuntimeException", "java/lang/Exception"]).filter goodWord)
def wsL_markDown_r1 : List Cond := [Cond.classLink RL 13 "java/lang/IllegalArgumentException", Cond.classLink RL 19 "java/lang/IllegalStateException", Cond.methodLink RL 32 yX3_markDown, Cond.instanceMethod yX3_markDown, Cond.selects RX3 yX3_markDown yX3_markDown, Cond.initialized RX3, Cond.code yX3_markDown cX3_markDown 4 (some .int), Cond.classLink RX3 51 "java/lang/IllegalStateException", Cond.initialized "java/lang/IllegalStateException", Cond.fieldLink RX3 12 "MarkdownPlanner" "season" "LMarkdownPlanner$Season;", Cond.methodLink RX3 62 yX3_storeOf, Cond.instanceMethod yX3_storeOf, Cond.selects RX3 yX3_storeOf yX3_storeOf, Cond.code yX3_storeOf cX3_storeOf 2 (some (.object "MarkdownPlanner$Store")), Cond.fieldLink RX3 18 "MarkdownPlanner" "stores" "[LMarkdownPlanner$Store;", Cond.methodLink RX3 30 yX3_requireWithin, Cond.static yX3_requireWithin, Cond.code yX3_requireWithin cX3_requireWithin 3 none, Cond.classLink RX3 105 "java/lang/IllegalArgumentException", Cond.initialized "java/lang/IllegalArgumentException", Cond.methodLink RX3 44 yX3_requireStep, Cond.static yX3_requireStep, Cond.code yX3_requireStep cX3_requireStep 1 none, Cond.methodLink RX3 88 yX3_requireSeasonOn]
def wsL_markDown_r2 : List Cond := [Cond.instanceMethod yX3_requireSeasonOn, Cond.selects RX3 yX3_requireSeasonOn yX3_requireSeasonOn, Cond.code yX3_requireSeasonOn cX3_requireSeasonOn 1 none, Cond.instanceMethod yX2_waitFrom, Cond.initialized RX2, Cond.selects RX2 yX2_waitFrom yX2_waitFrom, Cond.code yX2_waitFrom cX2_waitFrom 3 (some .int), Cond.fieldLink RX2 18 "MarkdownPlanner$Store" "markedDownIn" "I", Cond.methodLink RX2 28 Lib.Math.max.name, Cond.static Lib.Math.max.name, Cond.initialized "java/lang/Math", Cond.code Lib.Math.max.name Lib.Math.max.code 2 (some .int)]
def wsL_markDown : List Cond := .codeWith yL_markDown cL_markDown 5 (some .int) [(0, 10, 13, 13), (0, 10, 17, 19)] :: ((wsL_markDown_r1 ++ wsL_markDown_r2) ++ wsX20 ++ wsX30 ++ wsX10 ++ (vx_atS RX3 55 "java/lang/IllegalStateException" ["java/lang/RuntimeException", "java/lang/Exception"]).filter goodWord ++ (vx_atS RX3 109 "java/lang/IllegalArgumentException" ["java/lang/RuntimeException", "java/lang/Exception"]).filter goodWord)
def wsL_move_r1 : List Cond := [Cond.classLink RL 13 "java/lang/IllegalArgumentException", Cond.classLink RL 19 "java/lang/IllegalStateException", Cond.methodLink RL 35 yX3_move, Cond.instanceMethod yX3_move, Cond.selects RX3 yX3_move yX3_move, Cond.initialized RX3, Cond.code yX3_move cX3_move 8 (some .int), Cond.classLink RX3 105 "java/lang/IllegalArgumentException", Cond.initialized "java/lang/IllegalArgumentException", Cond.classLink RX3 51 "java/lang/IllegalStateException", Cond.initialized "java/lang/IllegalStateException", Cond.fieldLink RX3 12 "MarkdownPlanner" "season" "LMarkdownPlanner$Season;", Cond.methodLink RX3 62 yX3_storeOf, Cond.instanceMethod yX3_storeOf, Cond.selects RX3 yX3_storeOf yX3_storeOf, Cond.code yX3_storeOf cX3_storeOf 2 (some (.object "MarkdownPlanner$Store")), Cond.fieldLink RX3 18 "MarkdownPlanner" "stores" "[LMarkdownPlanner$Store;", Cond.methodLink RX3 30 yX3_requireWithin, Cond.static yX3_requireWithin, Cond.code yX3_requireWithin cX3_requireWithin 3 none, Cond.methodLink RX3 78 yX3_requireSize, Cond.static yX3_requireSize, Cond.code yX3_requireSize cX3_requireSize 1 none, Cond.methodLink RX3 88 yX3_requireSeasonOn]
def wsL_move_r2 : List Cond := [Cond.instanceMethod yX3_requireSeasonOn, Cond.selects RX3 yX3_requireSeasonOn yX3_requireSeasonOn, Cond.code yX3_requireSeasonOn cX3_requireSeasonOn 1 none, Cond.methodLink RX3 81 yX3_requireRoomFor, Cond.static yX3_requireRoomFor, Cond.code yX3_requireRoomFor cX3_requireRoomFor 2 none, Cond.instanceMethod yX2_wholeStock, Cond.initialized RX2, Cond.selects RX2 yX2_wholeStock yX2_wholeStock, Cond.code yX2_wholeStock cX2_wholeStock 3 (some .int), Cond.fieldLink RX2 15 "MarkdownPlanner$Store" "pieces" "[I"]
def wsL_move : List Cond := .codeWith yL_move cL_move 7 (some .int) [(0, 14, 17, 13), (0, 14, 21, 19)] :: ((wsL_move_r1 ++ wsL_move_r2) ++ wsX20 ++ wsX30 ++ wsX10 ++ (vx_atS RX3 109 "java/lang/IllegalArgumentException" ["java/lang/RuntimeException", "java/lang/Exception"]).filter goodWord ++ (vx_atS RX3 55 "java/lang/IllegalStateException" ["java/lang/RuntimeException", "java/lang/Exception"]).filter goodWord)
def wsL_run_r1 : List Cond := [Cond.classLink RL 19 "java/lang/IllegalStateException", Cond.methodLink RL 39 yX3_run, Cond.instanceMethod yX3_run, Cond.selects RX3 yX3_run yX3_run, Cond.initialized RX3, Cond.code yX3_run cX3_run 6 (some .int), Cond.fieldLink RX3 18 "MarkdownPlanner" "stores" "[LMarkdownPlanner$Store;", Cond.fieldLink RX3 12 "MarkdownPlanner" "season" "LMarkdownPlanner$Season;", Cond.methodLink RX3 88 yX3_requireSeasonOn, Cond.instanceMethod yX3_requireSeasonOn, Cond.selects RX3 yX3_requireSeasonOn yX3_requireSeasonOn, Cond.code yX3_requireSeasonOn cX3_requireSeasonOn 1 none, Cond.classLink RX3 51 "java/lang/IllegalStateException", Cond.initialized "java/lang/IllegalStateException", Cond.instanceMethod yX2_sellForAWeek, Cond.initialized RX2, Cond.selects RX2 yX2_sellForAWeek yX2_sellForAWeek, Cond.code yX2_sellForAWeek cX2_sellForAWeek 3 (some .int), Cond.fieldLink RX2 22 "MarkdownPlanner$Store" "step" "I", Cond.fieldLink RX2 15 "MarkdownPlanner$Store" "pieces" "[I", Cond.fieldLink RX2 25 "MarkdownPlanner$Store" "piecesSold" "I", Cond.methodLink RX2 44 yX2_salesAt, Cond.instanceMethod yX2_salesAt, Cond.selects RX2 yX2_salesAt yX2_salesAt]
def wsL_run_r2 : List Cond := [Cond.code yX2_salesAt cX2_salesAt 2 (some .int), Cond.fieldLink RX2 9 "MarkdownPlanner$Store" "demands" "[I", Cond.methodLink RX2 41 Lib.Math.min.name, Cond.static Lib.Math.min.name, Cond.initialized "java/lang/Math", Cond.code Lib.Math.min.name Lib.Math.min.code 2 (some .int), Cond.methodLink RX2 34 yX2_sizesInStock, Cond.instanceMethod yX2_sizesInStock, Cond.selects RX2 yX2_sizesInStock yX2_sizesInStock, Cond.code yX2_sizesInStock cX2_sizesInStock 3 (some .int), Cond.methodLink RX2 38 yX2_wholeStock, Cond.instanceMethod yX2_wholeStock, Cond.selects RX2 yX2_wholeStock yX2_wholeStock, Cond.code yX2_wholeStock cX2_wholeStock 3 (some .int), Cond.methodLink RX2 48 yX2_fullestSize, Cond.instanceMethod yX2_fullestSize, Cond.selects RX2 yX2_fullestSize yX2_fullestSize, Cond.code yX2_fullestSize cX2_fullestSize 3 (some .int)]
def wsL_run : List Cond := .codeWith yL_run cL_run 3 (some .int) [(0, 8, 11, 19)] :: ((wsL_run_r1 ++ wsL_run_r2) ++ wsX30 ++ wsX10 ++ wsX20 ++ (vx_atS RX3 55 "java/lang/IllegalStateException" ["java/lang/RuntimeException", "java/lang/Exception"]).filter goodWord)
def wsL_stock : List Cond := .codeWith yL_stock cL_stock 5 (some .int) [(0, 10, 13, 13)] :: ([.classLink RL 13 "java/lang/IllegalArgumentException", .methodLink RL 43 yX3_stock, .instanceMethod yX3_stock, .selects RX3 yX3_stock yX3_stock, .initialized RX3, .code yX3_stock cX3_stock 4 (some .int), .methodLink RX3 62 yX3_storeOf, .instanceMethod yX3_storeOf, .selects RX3 yX3_storeOf yX3_storeOf, .code yX3_storeOf cX3_storeOf 2 (some (.object "MarkdownPlanner$Store")), .fieldLink RX3 18 "MarkdownPlanner" "stores" "[LMarkdownPlanner$Store;", .methodLink RX3 30 yX3_requireWithin, .static yX3_requireWithin, .code yX3_requireWithin cX3_requireWithin 3 none, .classLink RX3 105 "java/lang/IllegalArgumentException", .initialized "java/lang/IllegalArgumentException", .methodLink RX3 78 yX3_requireSize, .static yX3_requireSize, .code yX3_requireSize cX3_requireSize 1 none] ++ wsX20 ++ wsX30 ++ (vx_atS RX3 109 "java/lang/IllegalArgumentException" ["java/lang/RuntimeException", "java/lang/Exception"]).filter goodWord)
def wsL_step : List Cond := .codeWith yL_step cL_step 4 (some .int) [(0, 9, 12, 13)] :: ([.classLink RL 13 "java/lang/IllegalArgumentException", .methodLink RL 46 yX3_step, .instanceMethod yX3_step, .selects RX3 yX3_step yX3_step, .initialized RX3, .code yX3_step cX3_step 2 (some .int), .methodLink RX3 62 yX3_storeOf, .instanceMethod yX3_storeOf, .selects RX3 yX3_storeOf yX3_storeOf, .code yX3_storeOf cX3_storeOf 2 (some (.object "MarkdownPlanner$Store")), .fieldLink RX3 18 "MarkdownPlanner" "stores" "[LMarkdownPlanner$Store;", .methodLink RX3 30 yX3_requireWithin, .static yX3_requireWithin, .code yX3_requireWithin cX3_requireWithin 3 none, .classLink RX3 105 "java/lang/IllegalArgumentException", .initialized "java/lang/IllegalArgumentException"] ++ wsX20 ++ wsX30 ++ (vx_atS RX3 109 "java/lang/IllegalArgumentException" ["java/lang/RuntimeException", "java/lang/Exception"]).filter goodWord)
def wsL_weeksToWait_r1 : List Cond := [Cond.classLink RL 13 "java/lang/IllegalArgumentException", Cond.methodLink RL 49 yX3_weeksToWait, Cond.instanceMethod yX3_weeksToWait, Cond.selects RX3 yX3_weeksToWait yX3_weeksToWait, Cond.initialized RX3, Cond.code yX3_weeksToWait cX3_weeksToWait 2 (some .int), Cond.fieldLink RX3 12 "MarkdownPlanner" "season" "LMarkdownPlanner$Season;", Cond.methodLink RX3 62 yX3_storeOf, Cond.instanceMethod yX3_storeOf, Cond.selects RX3 yX3_storeOf yX3_storeOf, Cond.code yX3_storeOf cX3_storeOf 2 (some (.object "MarkdownPlanner$Store")), Cond.fieldLink RX3 18 "MarkdownPlanner" "stores" "[LMarkdownPlanner$Store;", Cond.methodLink RX3 30 yX3_requireWithin, Cond.static yX3_requireWithin, Cond.code yX3_requireWithin cX3_requireWithin 3 none, Cond.classLink RX3 105 "java/lang/IllegalArgumentException", Cond.initialized "java/lang/IllegalArgumentException", Cond.instanceMethod yX2_waitFrom, Cond.initialized RX2, Cond.selects RX2 yX2_waitFrom yX2_waitFrom, Cond.code yX2_waitFrom cX2_waitFrom 3 (some .int), Cond.fieldLink RX2 18 "MarkdownPlanner$Store" "markedDownIn" "I", Cond.methodLink RX2 28 Lib.Math.max.name, Cond.static Lib.Math.max.name]
def wsL_weeksToWait_r2 : List Cond := [Cond.initialized "java/lang/Math", Cond.code Lib.Math.max.name Lib.Math.max.code 2 (some .int)]
def wsL_weeksToWait : List Cond := .codeWith yL_weeksToWait cL_weeksToWait 4 (some .int) [(0, 9, 12, 13)] :: ((wsL_weeksToWait_r1 ++ wsL_weeksToWait_r2) ++ wsX30 ++ wsX10 ++ wsX20 ++ (vx_atS RX3 109 "java/lang/IllegalArgumentException" ["java/lang/RuntimeException", "java/lang/Exception"]).filter goodWord)
def wsL_sold : List Cond := .codeWith yL_sold cL_sold 4 (some .int) [(0, 9, 12, 13)] :: ([.classLink RL 13 "java/lang/IllegalArgumentException", .methodLink RL 52 yX3_sold, .instanceMethod yX3_sold, .selects RX3 yX3_sold yX3_sold, .initialized RX3, .code yX3_sold cX3_sold 2 (some .int), .methodLink RX3 62 yX3_storeOf, .instanceMethod yX3_storeOf, .selects RX3 yX3_storeOf yX3_storeOf, .code yX3_storeOf cX3_storeOf 2 (some (.object "MarkdownPlanner$Store")), .fieldLink RX3 18 "MarkdownPlanner" "stores" "[LMarkdownPlanner$Store;", .methodLink RX3 30 yX3_requireWithin, .static yX3_requireWithin, .code yX3_requireWithin cX3_requireWithin 3 none, .classLink RX3 105 "java/lang/IllegalArgumentException", .initialized "java/lang/IllegalArgumentException"] ++ wsX20 ++ wsX30 ++ (vx_atS RX3 109 "java/lang/IllegalArgumentException" ["java/lang/RuntimeException", "java/lang/Exception"]).filter goodWord)
def wsL_wouldSell_r1 : List Cond := [Cond.classLink RL 13 "java/lang/IllegalArgumentException", Cond.methodLink RL 55 yX3_wouldSell, Cond.instanceMethod yX3_wouldSell, Cond.selects RX3 yX3_wouldSell yX3_wouldSell, Cond.initialized RX3, Cond.code yX3_wouldSell cX3_wouldSell 4 (some .int), Cond.methodLink RX3 62 yX3_storeOf, Cond.instanceMethod yX3_storeOf, Cond.selects RX3 yX3_storeOf yX3_storeOf, Cond.code yX3_storeOf cX3_storeOf 2 (some (.object "MarkdownPlanner$Store")), Cond.fieldLink RX3 18 "MarkdownPlanner" "stores" "[LMarkdownPlanner$Store;", Cond.methodLink RX3 30 yX3_requireWithin, Cond.static yX3_requireWithin, Cond.code yX3_requireWithin cX3_requireWithin 3 none, Cond.classLink RX3 105 "java/lang/IllegalArgumentException", Cond.initialized "java/lang/IllegalArgumentException", Cond.methodLink RX3 44 yX3_requireStep, Cond.static yX3_requireStep, Cond.code yX3_requireStep cX3_requireStep 1 none, Cond.instanceMethod yX2_salesAt, Cond.initialized RX2, Cond.selects RX2 yX2_salesAt yX2_salesAt, Cond.code yX2_salesAt cX2_salesAt 2 (some .int), Cond.fieldLink RX2 9 "MarkdownPlanner$Store" "demands" "[I"]
def wsL_wouldSell_r2 : List Cond := [Cond.methodLink RX2 41 Lib.Math.min.name, Cond.static Lib.Math.min.name, Cond.initialized "java/lang/Math", Cond.code Lib.Math.min.name Lib.Math.min.code 2 (some .int), Cond.methodLink RX2 34 yX2_sizesInStock, Cond.instanceMethod yX2_sizesInStock, Cond.selects RX2 yX2_sizesInStock yX2_sizesInStock, Cond.code yX2_sizesInStock cX2_sizesInStock 3 (some .int), Cond.fieldLink RX2 15 "MarkdownPlanner$Store" "pieces" "[I", Cond.methodLink RX2 38 yX2_wholeStock, Cond.instanceMethod yX2_wholeStock, Cond.selects RX2 yX2_wholeStock yX2_wholeStock, Cond.code yX2_wholeStock cX2_wholeStock 3 (some .int)]
def wsL_wouldSell : List Cond := .codeWith yL_wouldSell cL_wouldSell 5 (some .int) [(0, 10, 13, 13)] :: ((wsL_wouldSell_r1 ++ wsL_wouldSell_r2) ++ wsX30 ++ wsX20 ++ (vx_atS RX3 109 "java/lang/IllegalArgumentException" ["java/lang/RuntimeException", "java/lang/Exception"]).filter goodWord)
def wsL_best_r1 : List Cond := [Cond.classLink RL 13 "java/lang/IllegalArgumentException", Cond.methodLink RL 58 yX3_best, Cond.instanceMethod yX3_best, Cond.selects RX3 yX3_best yX3_best, Cond.initialized RX3, Cond.code yX3_best cX3_best 2 (some .int), Cond.fieldLink RX3 25 "MarkdownPlanner" "plans" "LMarkdownPlanner$Plans;", Cond.fieldLink RX3 12 "MarkdownPlanner" "season" "LMarkdownPlanner$Season;", Cond.methodLink RX3 62 yX3_storeOf, Cond.instanceMethod yX3_storeOf, Cond.selects RX3 yX3_storeOf yX3_storeOf, Cond.code yX3_storeOf cX3_storeOf 2 (some (.object "MarkdownPlanner$Store")), Cond.fieldLink RX3 18 "MarkdownPlanner" "stores" "[LMarkdownPlanner$Store;", Cond.methodLink RX3 30 yX3_requireWithin, Cond.static yX3_requireWithin, Cond.code yX3_requireWithin cX3_requireWithin 3 none, Cond.classLink RX3 105 "java/lang/IllegalArgumentException", Cond.initialized "java/lang/IllegalArgumentException", Cond.instanceMethod yX0_lookAt, Cond.initialized RX0, Cond.selects RX0 yX0_lookAt yX0_lookAt, Cond.code yX0_lookAt cX0_lookAt 3 none, Cond.fieldLink RX0 9 "MarkdownPlanner$Plans" "prices" "[I", Cond.methodLink RX0 27 arraycopyName]
def wsL_best_r2 : List Cond := [Cond.native arraycopyName, Cond.static arraycopyName, Cond.initialized "java/lang/System", Cond.fieldLink RX0 15 "MarkdownPlanner$Plans" "demands" "[I", Cond.fieldLink RX0 40 "MarkdownPlanner$Plans" "firstWeek" "I", Cond.fieldLink RX0 46 "MarkdownPlanner$Plans" "endWeek" "I", Cond.fieldLink RX0 52 "MarkdownPlanner$Plans" "gap" "I", Cond.fieldLink RX0 56 "MarkdownPlanner$Plans" "remnant" "I", Cond.methodLink RX0 61 Lib.Math.min.name, Cond.static Lib.Math.min.name, Cond.initialized "java/lang/Math", Cond.code Lib.Math.min.name Lib.Math.min.code 2 (some .int), Cond.fieldLink RX0 66 "MarkdownPlanner$Plans" "freeWeek" "I", Cond.fieldLink RX0 72 "MarkdownPlanner$Plans" "ownStep" "I", Cond.fieldLink RX0 79 "MarkdownPlanner$Plans" "ownStock" "I", Cond.instanceMethod yX2_waitFrom, Cond.initialized RX2, Cond.selects RX2 yX2_waitFrom yX2_waitFrom, Cond.code yX2_waitFrom cX2_waitFrom 3 (some .int), Cond.fieldLink RX2 18 "MarkdownPlanner$Store" "markedDownIn" "I", Cond.methodLink RX2 28 Lib.Math.max.name, Cond.static Lib.Math.max.name, Cond.code Lib.Math.max.name Lib.Math.max.code 2 (some .int), Cond.instanceMethod yX2_wholeStock]
def wsL_best_r3 : List Cond := [Cond.selects RX2 yX2_wholeStock yX2_wholeStock, Cond.code yX2_wholeStock cX2_wholeStock 3 (some .int), Cond.fieldLink RX2 15 "MarkdownPlanner$Store" "pieces" "[I", Cond.instanceMethod yX0_greatestWorth, Cond.selects RX0 yX0_greatestWorth yX0_greatestWorth, Cond.code yX0_greatestWorth cX0_greatestWorth 2 (some .int), Cond.methodLink RX0 82 yX0_tellWorths, Cond.instanceMethod yX0_tellWorths, Cond.selects RX0 yX0_tellWorths yX0_tellWorths, Cond.code yX0_tellWorths cX0_tellWorths 5 none, Cond.fieldLink RX0 94 "MarkdownPlanner$Plans" "mostLeft" "I", Cond.fieldLink RX0 18 "MarkdownPlanner$Plans" "worths" "[I", Cond.methodLink RX0 97 yX0_placeOf, Cond.static yX0_placeOf, Cond.code yX0_placeOf cX0_placeOf 3 (some .int), Cond.methodLink RX0 100 yX0_worthOfChoosing, Cond.instanceMethod yX0_worthOfChoosing, Cond.selects RX0 yX0_worthOfChoosing yX0_worthOfChoosing, Cond.code yX0_worthOfChoosing cX0_worthOfChoosing 6 (some .int), Cond.methodLink RX0 106 Lib.Math.max.name, Cond.methodLink RX0 103 yX0_worthOfTaking, Cond.instanceMethod yX0_worthOfTaking, Cond.selects RX0 yX0_worthOfTaking yX0_worthOfTaking, Cond.code yX0_worthOfTaking cX0_worthOfTaking 5 (some .int)]
def wsL_best_r4 : List Cond := [Cond.methodLink RX0 86 yX0_worthOfKeeping, Cond.instanceMethod yX0_worthOfKeeping, Cond.selects RX0 yX0_worthOfKeeping yX0_worthOfKeeping, Cond.code yX0_worthOfKeeping cX0_worthOfKeeping 8 (some .int), Cond.methodLink RX0 109 yX0_worthFrom, Cond.instanceMethod yX0_worthFrom, Cond.selects RX0 yX0_worthFrom yX0_worthFrom, Cond.code yX0_worthFrom cX0_worthFrom 4 (some .int)]
def wsL_best : List Cond := .codeWith yL_best cL_best 4 (some .int) [(0, 9, 12, 13)] :: ((wsL_best_r1 ++ (wsL_best_r2 ++ (wsL_best_r3 ++ wsL_best_r4))) ++ wsX30 ++ wsX10 ++ wsX00 ++ wsX20 ++ (vx_atS RX3 109 "java/lang/IllegalArgumentException" ["java/lang/RuntimeException", "java/lang/Exception"]).filter goodWord)
def wsL_bestByAll_r1 : List Cond := [Cond.classLink RL 13 "java/lang/IllegalArgumentException", Cond.classLink RL 19 "java/lang/IllegalStateException", Cond.methodLink RL 61 yX3_bestByAll, Cond.instanceMethod yX3_bestByAll, Cond.selects RX3 yX3_bestByAll yX3_bestByAll, Cond.initialized RX3, Cond.code yX3_bestByAll cX3_bestByAll 3 (some .int), Cond.classLink RX3 51 "java/lang/IllegalStateException", Cond.initialized "java/lang/IllegalStateException", Cond.fieldLink RX3 12 "MarkdownPlanner" "season" "LMarkdownPlanner$Season;", Cond.fieldLink RX3 25 "MarkdownPlanner" "plans" "LMarkdownPlanner$Plans;", Cond.methodLink RX3 62 yX3_storeOf, Cond.instanceMethod yX3_storeOf, Cond.selects RX3 yX3_storeOf yX3_storeOf, Cond.code yX3_storeOf cX3_storeOf 2 (some (.object "MarkdownPlanner$Store")), Cond.fieldLink RX3 18 "MarkdownPlanner" "stores" "[LMarkdownPlanner$Store;", Cond.methodLink RX3 30 yX3_requireWithin, Cond.static yX3_requireWithin, Cond.code yX3_requireWithin cX3_requireWithin 3 none, Cond.classLink RX3 105 "java/lang/IllegalArgumentException", Cond.initialized "java/lang/IllegalArgumentException", Cond.instanceMethod yX0_lookAt, Cond.initialized RX0, Cond.selects RX0 yX0_lookAt yX0_lookAt]
def wsL_bestByAll_r2 : List Cond := [Cond.code yX0_lookAt cX0_lookAt 3 none, Cond.fieldLink RX0 9 "MarkdownPlanner$Plans" "prices" "[I", Cond.methodLink RX0 27 arraycopyName, Cond.native arraycopyName, Cond.static arraycopyName, Cond.initialized "java/lang/System", Cond.fieldLink RX0 15 "MarkdownPlanner$Plans" "demands" "[I", Cond.fieldLink RX0 40 "MarkdownPlanner$Plans" "firstWeek" "I", Cond.fieldLink RX0 46 "MarkdownPlanner$Plans" "endWeek" "I", Cond.fieldLink RX0 52 "MarkdownPlanner$Plans" "gap" "I", Cond.fieldLink RX0 56 "MarkdownPlanner$Plans" "remnant" "I", Cond.methodLink RX0 61 Lib.Math.min.name, Cond.static Lib.Math.min.name, Cond.initialized "java/lang/Math", Cond.code Lib.Math.min.name Lib.Math.min.code 2 (some .int), Cond.fieldLink RX0 66 "MarkdownPlanner$Plans" "freeWeek" "I", Cond.fieldLink RX0 72 "MarkdownPlanner$Plans" "ownStep" "I", Cond.fieldLink RX0 79 "MarkdownPlanner$Plans" "ownStock" "I", Cond.instanceMethod yX2_waitFrom, Cond.initialized RX2, Cond.selects RX2 yX2_waitFrom yX2_waitFrom, Cond.code yX2_waitFrom cX2_waitFrom 3 (some .int), Cond.fieldLink RX2 18 "MarkdownPlanner$Store" "markedDownIn" "I", Cond.methodLink RX2 28 Lib.Math.max.name]
def wsL_bestByAll_r3 : List Cond := [Cond.static Lib.Math.max.name, Cond.code Lib.Math.max.name Lib.Math.max.code 2 (some .int), Cond.instanceMethod yX2_wholeStock, Cond.selects RX2 yX2_wholeStock yX2_wholeStock, Cond.code yX2_wholeStock cX2_wholeStock 3 (some .int), Cond.fieldLink RX2 15 "MarkdownPlanner$Store" "pieces" "[I", Cond.instanceMethod yX0_greatestWorthByAll, Cond.selects RX0 yX0_greatestWorthByAll yX0_greatestWorthByAll, Cond.code yX0_greatestWorthByAll cX0_greatestWorthByAll 5 (some .int), Cond.fieldLink RX0 21 "MarkdownPlanner$Plans" "ladder" "[I", Cond.constant RX0 112 (1000000), Cond.methodLink RX0 106 Lib.Math.max.name, Cond.methodLink RX0 113 yX0_worthOfLadder, Cond.instanceMethod yX0_worthOfLadder, Cond.selects RX0 yX0_worthOfLadder yX0_worthOfLadder, Cond.code yX0_worthOfLadder cX0_worthOfLadder 9 (some .int), Cond.methodLink RX0 117 yX0_turnToNextLadder, Cond.instanceMethod yX0_turnToNextLadder, Cond.selects RX0 yX0_turnToNextLadder yX0_turnToNextLadder, Cond.code yX0_turnToNextLadder cX0_turnToNextLadder 5 (some .boolean)]
def wsL_bestByAll : List Cond := .codeWith yL_bestByAll cL_bestByAll 4 (some .int) [(0, 9, 12, 13), (0, 9, 15, 19)] :: ((wsL_bestByAll_r1 ++ (wsL_bestByAll_r2 ++ wsL_bestByAll_r3)) ++ wsX30 ++ wsX10 ++ wsX00 ++ wsX20 ++ (vx_atS RX3 55 "java/lang/IllegalStateException" ["java/lang/RuntimeException", "java/lang/Exception"]).filter goodWord ++ (vx_atS RX3 109 "java/lang/IllegalArgumentException" ["java/lang/RuntimeException", "java/lang/Exception"]).filter goodWord)
def wsL_planned_r1 : List Cond := [Cond.classLink RL 13 "java/lang/IllegalArgumentException", Cond.methodLink RL 64 yX3_planned, Cond.instanceMethod yX3_planned, Cond.selects RX3 yX3_planned yX3_planned, Cond.initialized RX3, Cond.code yX3_planned cX3_planned 4 (some .int), Cond.fieldLink RX3 12 "MarkdownPlanner" "season" "LMarkdownPlanner$Season;", Cond.fieldLink RX3 25 "MarkdownPlanner" "plans" "LMarkdownPlanner$Plans;", Cond.methodLink RX3 62 yX3_storeOf, Cond.instanceMethod yX3_storeOf, Cond.selects RX3 yX3_storeOf yX3_storeOf, Cond.code yX3_storeOf cX3_storeOf 2 (some (.object "MarkdownPlanner$Store")), Cond.fieldLink RX3 18 "MarkdownPlanner" "stores" "[LMarkdownPlanner$Store;", Cond.methodLink RX3 30 yX3_requireWithin, Cond.static yX3_requireWithin, Cond.code yX3_requireWithin cX3_requireWithin 3 none, Cond.classLink RX3 105 "java/lang/IllegalArgumentException", Cond.initialized "java/lang/IllegalArgumentException", Cond.instanceMethod yX0_lookAt, Cond.initialized RX0, Cond.selects RX0 yX0_lookAt yX0_lookAt, Cond.code yX0_lookAt cX0_lookAt 3 none, Cond.fieldLink RX0 9 "MarkdownPlanner$Plans" "prices" "[I", Cond.methodLink RX0 27 arraycopyName]
def wsL_planned_r2 : List Cond := [Cond.native arraycopyName, Cond.static arraycopyName, Cond.initialized "java/lang/System", Cond.fieldLink RX0 15 "MarkdownPlanner$Plans" "demands" "[I", Cond.fieldLink RX0 40 "MarkdownPlanner$Plans" "firstWeek" "I", Cond.fieldLink RX0 46 "MarkdownPlanner$Plans" "endWeek" "I", Cond.fieldLink RX0 52 "MarkdownPlanner$Plans" "gap" "I", Cond.fieldLink RX0 56 "MarkdownPlanner$Plans" "remnant" "I", Cond.methodLink RX0 61 Lib.Math.min.name, Cond.static Lib.Math.min.name, Cond.initialized "java/lang/Math", Cond.code Lib.Math.min.name Lib.Math.min.code 2 (some .int), Cond.fieldLink RX0 66 "MarkdownPlanner$Plans" "freeWeek" "I", Cond.fieldLink RX0 72 "MarkdownPlanner$Plans" "ownStep" "I", Cond.fieldLink RX0 79 "MarkdownPlanner$Plans" "ownStock" "I", Cond.instanceMethod yX2_waitFrom, Cond.initialized RX2, Cond.selects RX2 yX2_waitFrom yX2_waitFrom, Cond.code yX2_waitFrom cX2_waitFrom 3 (some .int), Cond.fieldLink RX2 18 "MarkdownPlanner$Store" "markedDownIn" "I", Cond.methodLink RX2 28 Lib.Math.max.name, Cond.static Lib.Math.max.name, Cond.code Lib.Math.max.name Lib.Math.max.code 2 (some .int), Cond.instanceMethod yX2_wholeStock]
def wsL_planned_r3 : List Cond := [Cond.selects RX2 yX2_wholeStock yX2_wholeStock, Cond.code yX2_wholeStock cX2_wholeStock 3 (some .int), Cond.fieldLink RX2 15 "MarkdownPlanner$Store" "pieces" "[I", Cond.instanceMethod yX0_bestStepIn, Cond.selects RX0 yX0_bestStepIn yX0_bestStepIn, Cond.code yX0_bestStepIn cX0_bestStepIn 7 (some .int), Cond.methodLink RX0 82 yX0_tellWorths, Cond.instanceMethod yX0_tellWorths, Cond.selects RX0 yX0_tellWorths yX0_tellWorths, Cond.code yX0_tellWorths cX0_tellWorths 5 none, Cond.fieldLink RX0 94 "MarkdownPlanner$Plans" "mostLeft" "I", Cond.fieldLink RX0 18 "MarkdownPlanner$Plans" "worths" "[I", Cond.methodLink RX0 97 yX0_placeOf, Cond.static yX0_placeOf, Cond.code yX0_placeOf cX0_placeOf 3 (some .int), Cond.methodLink RX0 100 yX0_worthOfChoosing, Cond.instanceMethod yX0_worthOfChoosing, Cond.selects RX0 yX0_worthOfChoosing yX0_worthOfChoosing, Cond.code yX0_worthOfChoosing cX0_worthOfChoosing 6 (some .int), Cond.methodLink RX0 106 Lib.Math.max.name, Cond.methodLink RX0 103 yX0_worthOfTaking, Cond.instanceMethod yX0_worthOfTaking, Cond.selects RX0 yX0_worthOfTaking yX0_worthOfTaking, Cond.code yX0_worthOfTaking cX0_worthOfTaking 5 (some .int)]
def wsL_planned_r4 : List Cond := [Cond.methodLink RX0 86 yX0_worthOfKeeping, Cond.instanceMethod yX0_worthOfKeeping, Cond.selects RX0 yX0_worthOfKeeping yX0_worthOfKeeping, Cond.code yX0_worthOfKeeping cX0_worthOfKeeping 8 (some .int), Cond.methodLink RX0 109 yX0_worthFrom, Cond.instanceMethod yX0_worthFrom, Cond.selects RX0 yX0_worthFrom yX0_worthFrom, Cond.code yX0_worthFrom cX0_worthFrom 4 (some .int), Cond.methodLink RX0 90 yX0_lowestBestStep, Cond.instanceMethod yX0_lowestBestStep, Cond.selects RX0 yX0_lowestBestStep yX0_lowestBestStep, Cond.code yX0_lowestBestStep cX0_lowestBestStep 6 (some .int)]
def wsL_planned : List Cond := .codeWith yL_planned cL_planned 5 (some .int) [(0, 10, 13, 13)] :: ((wsL_planned_r1 ++ (wsL_planned_r2 ++ (wsL_planned_r3 ++ wsL_planned_r4))) ++ wsX30 ++ wsX10 ++ wsX00 ++ wsX20 ++ (vx_atS RX3 109 "java/lang/IllegalArgumentException" ["java/lang/RuntimeException", "java/lang/Exception"]).filter goodWord)
def wsL_bestLeaving_r1 : List Cond := [Cond.classLink RL 13 "java/lang/IllegalArgumentException", Cond.methodLink RL 67 yX3_bestLeaving, Cond.instanceMethod yX3_bestLeaving, Cond.selects RX3 yX3_bestLeaving yX3_bestLeaving, Cond.initialized RX3, Cond.code yX3_bestLeaving cX3_bestLeaving 4 (some .int), Cond.fieldLink RX3 25 "MarkdownPlanner" "plans" "LMarkdownPlanner$Plans;", Cond.fieldLink RX3 12 "MarkdownPlanner" "season" "LMarkdownPlanner$Season;", Cond.methodLink RX3 62 yX3_storeOf, Cond.instanceMethod yX3_storeOf, Cond.selects RX3 yX3_storeOf yX3_storeOf, Cond.code yX3_storeOf cX3_storeOf 2 (some (.object "MarkdownPlanner$Store")), Cond.fieldLink RX3 18 "MarkdownPlanner" "stores" "[LMarkdownPlanner$Store;", Cond.methodLink RX3 30 yX3_requireWithin, Cond.static yX3_requireWithin, Cond.code yX3_requireWithin cX3_requireWithin 3 none, Cond.classLink RX3 105 "java/lang/IllegalArgumentException", Cond.initialized "java/lang/IllegalArgumentException", Cond.instanceMethod yX0_lookAt, Cond.initialized RX0, Cond.selects RX0 yX0_lookAt yX0_lookAt, Cond.code yX0_lookAt cX0_lookAt 3 none, Cond.fieldLink RX0 9 "MarkdownPlanner$Plans" "prices" "[I", Cond.methodLink RX0 27 arraycopyName]
def wsL_bestLeaving_r2 : List Cond := [Cond.native arraycopyName, Cond.static arraycopyName, Cond.initialized "java/lang/System", Cond.fieldLink RX0 15 "MarkdownPlanner$Plans" "demands" "[I", Cond.fieldLink RX0 40 "MarkdownPlanner$Plans" "firstWeek" "I", Cond.fieldLink RX0 46 "MarkdownPlanner$Plans" "endWeek" "I", Cond.fieldLink RX0 52 "MarkdownPlanner$Plans" "gap" "I", Cond.fieldLink RX0 56 "MarkdownPlanner$Plans" "remnant" "I", Cond.methodLink RX0 61 Lib.Math.min.name, Cond.static Lib.Math.min.name, Cond.initialized "java/lang/Math", Cond.code Lib.Math.min.name Lib.Math.min.code 2 (some .int), Cond.fieldLink RX0 66 "MarkdownPlanner$Plans" "freeWeek" "I", Cond.fieldLink RX0 72 "MarkdownPlanner$Plans" "ownStep" "I", Cond.fieldLink RX0 79 "MarkdownPlanner$Plans" "ownStock" "I", Cond.instanceMethod yX2_waitFrom, Cond.initialized RX2, Cond.selects RX2 yX2_waitFrom yX2_waitFrom, Cond.code yX2_waitFrom cX2_waitFrom 3 (some .int), Cond.fieldLink RX2 18 "MarkdownPlanner$Store" "markedDownIn" "I", Cond.methodLink RX2 28 Lib.Math.max.name, Cond.static Lib.Math.max.name, Cond.code Lib.Math.max.name Lib.Math.max.code 2 (some .int), Cond.instanceMethod yX2_wholeStock]
def wsL_bestLeaving_r3 : List Cond := [Cond.selects RX2 yX2_wholeStock yX2_wholeStock, Cond.code yX2_wholeStock cX2_wholeStock 3 (some .int), Cond.fieldLink RX2 15 "MarkdownPlanner$Store" "pieces" "[I", Cond.instanceMethod yX0_greatestWorth, Cond.selects RX0 yX0_greatestWorth yX0_greatestWorth, Cond.code yX0_greatestWorth cX0_greatestWorth 2 (some .int), Cond.methodLink RX0 82 yX0_tellWorths, Cond.instanceMethod yX0_tellWorths, Cond.selects RX0 yX0_tellWorths yX0_tellWorths, Cond.code yX0_tellWorths cX0_tellWorths 5 none, Cond.fieldLink RX0 94 "MarkdownPlanner$Plans" "mostLeft" "I", Cond.fieldLink RX0 18 "MarkdownPlanner$Plans" "worths" "[I", Cond.methodLink RX0 97 yX0_placeOf, Cond.static yX0_placeOf, Cond.code yX0_placeOf cX0_placeOf 3 (some .int), Cond.methodLink RX0 100 yX0_worthOfChoosing, Cond.instanceMethod yX0_worthOfChoosing, Cond.selects RX0 yX0_worthOfChoosing yX0_worthOfChoosing, Cond.code yX0_worthOfChoosing cX0_worthOfChoosing 6 (some .int), Cond.methodLink RX0 106 Lib.Math.max.name, Cond.methodLink RX0 103 yX0_worthOfTaking, Cond.instanceMethod yX0_worthOfTaking, Cond.selects RX0 yX0_worthOfTaking yX0_worthOfTaking, Cond.code yX0_worthOfTaking cX0_worthOfTaking 5 (some .int)]
def wsL_bestLeaving_r4 : List Cond := [Cond.methodLink RX0 86 yX0_worthOfKeeping, Cond.instanceMethod yX0_worthOfKeeping, Cond.selects RX0 yX0_worthOfKeeping yX0_worthOfKeeping, Cond.code yX0_worthOfKeeping cX0_worthOfKeeping 8 (some .int), Cond.methodLink RX0 109 yX0_worthFrom, Cond.instanceMethod yX0_worthFrom, Cond.selects RX0 yX0_worthFrom yX0_worthFrom, Cond.code yX0_worthFrom cX0_worthFrom 4 (some .int)]
def wsL_bestLeaving : List Cond := .codeWith yL_bestLeaving cL_bestLeaving 5 (some .int) [(0, 10, 13, 13)] :: ((wsL_bestLeaving_r1 ++ (wsL_bestLeaving_r2 ++ (wsL_bestLeaving_r3 ++ wsL_bestLeaving_r4))) ++ wsX30 ++ wsX10 ++ wsX00 ++ wsX20 ++ (vx_atS RX3 109 "java/lang/IllegalArgumentException" ["java/lang/RuntimeException", "java/lang/Exception"]).filter goodWord)
def wsL_law0_r1 : List Cond := [Cond.classLink RL 8 RX3, Cond.instantiable RX3 3, Cond.initialized RX3, Cond.classLink RL 71 RX4, Cond.instantiable RX4 14, Cond.initialized RX4, Cond.arrayClass .long, Cond.methodLink RL 70 yX3_init, Cond.instanceMethod yX3_init, Cond.code yX3_init cX3_init 2 none, Cond.methodLink RX3 3 objectInit, Cond.instanceMethod objectInit, Cond.code objectInit ⟨#[0xb1]⟩ 1 none, Cond.classLink RX3 9 RX1, Cond.instantiable RX1 7, Cond.initialized RX1, Cond.fieldLink RX3 12 "MarkdownPlanner" "season" "LMarkdownPlanner$Season;", Cond.classLink RX3 16 RX2, Cond.fieldLink RX3 18 "MarkdownPlanner" "stores" "[LMarkdownPlanner$Store;", Cond.classLink RX3 22 RX0, Cond.instantiable RX0 12, Cond.initialized RX0, Cond.fieldLink RX3 25 "MarkdownPlanner" "plans" "LMarkdownPlanner$Plans;", Cond.instantiable RX2 5]
def wsL_law0_r2 : List Cond := [Cond.initialized RX2, Cond.instanceMethod yX1_init, Cond.code yX1_init cX1_init 2 none, Cond.methodLink RX1 3 objectInit, Cond.arrayClass .int, Cond.fieldLink RX1 9 "MarkdownPlanner$Season" "prices" "[I", Cond.fieldLink RX1 15 "MarkdownPlanner$Season" "weeks" "I", Cond.fieldLink RX1 19 "MarkdownPlanner$Season" "gap" "I", Cond.instanceMethod yX0_init, Cond.code yX0_init cX0_init 1 none, Cond.methodLink RX0 3 objectInit, Cond.fieldLink RX0 9 "MarkdownPlanner$Plans" "prices" "[I", Cond.fieldLink RX0 15 "MarkdownPlanner$Plans" "demands" "[I", Cond.fieldLink RX0 18 "MarkdownPlanner$Plans" "worths" "[I", Cond.fieldLink RX0 21 "MarkdownPlanner$Plans" "ladder" "[I", Cond.instanceMethod yX2_init, Cond.code yX2_init cX2_init 1 none, Cond.methodLink RX2 3 objectInit, Cond.fieldLink RX2 9 "MarkdownPlanner$Store" "demands" "[I", Cond.fieldLink RX2 15 "MarkdownPlanner$Store" "pieces" "[I", Cond.fieldLink RX2 18 "MarkdownPlanner$Store" "markedDownIn" "I", Cond.methodLink RL 73 yX4_init, Cond.instanceMethod yX4_init, Cond.code yX4_init cX4_init 2 none]
def wsL_law0_r3 : List Cond := [Cond.methodLink RX4 1 objectInit, Cond.fieldLink RX4 7 "MarkdownPlannerModel" "weeks" "I", Cond.fieldLink RX4 13 "MarkdownPlannerModel" "price" "[I", Cond.fieldLink RX4 17 "MarkdownPlannerModel" "demand" "[I", Cond.fieldLink RX4 20 "MarkdownPlannerModel" "gap" "I", Cond.fieldLink RX4 23 "MarkdownPlannerModel" "stock" "[I", Cond.fieldLink RX4 26 "MarkdownPlannerModel" "step" "[I", Cond.fieldLink RX4 29 "MarkdownPlannerModel" "last" "[I", Cond.fieldLink RX4 32 "MarkdownPlannerModel" "sold" "[I", Cond.fieldLink RX4 35 "MarkdownPlannerModel" "worth" "[I", Cond.methodLink RL 74 yL_begin, Cond.static yL_begin, Cond.initialized RL, Cond.codeWith yL_begin cL_begin 4 (some .int) [(0, 9, 12, 13)], Cond.classLink RL 13 "java/lang/IllegalArgumentException", Cond.methodLink RL 7 yX3_begin, Cond.instanceMethod yX3_begin, Cond.selects RX3 yX3_begin yX3_begin, Cond.code yX3_begin cX3_begin 7 (some .int), Cond.methodLink RX3 30 yX3_requireWithin, Cond.static yX3_requireWithin, Cond.code yX3_requireWithin cX3_requireWithin 3 none, Cond.classLink RX3 105 "java/lang/IllegalArgumentException", Cond.initialized "java/lang/IllegalArgumentException"]
def wsL_law0_r4 : List Cond := [Cond.instanceMethod yX1_startAnew, Cond.selects RX1 yX1_startAnew yX1_startAnew, Cond.code yX1_startAnew cX1_startAnew 2 none, Cond.fieldLink RX1 22 "MarkdownPlanner$Season" "week" "I", Cond.fieldLink RX1 25 "MarkdownPlanner$Season" "taken" "I", Cond.instanceMethod yX2_startAnew, Cond.selects RX2 yX2_startAnew yX2_startAnew, Cond.code yX2_startAnew cX2_startAnew 1 none, Cond.fieldLink RX2 22 "MarkdownPlanner$Store" "step" "I", Cond.fieldLink RX2 25 "MarkdownPlanner$Store" "piecesSold" "I", Cond.methodLink RL 79 yX4_begin, Cond.instanceMethod yX4_begin, Cond.selects RX4 yX4_begin yX4_begin, Cond.code yX4_begin cX4_begin 4 (some .int), Cond.fieldLink RX4 49 "MarkdownPlannerModel" "week" "I", Cond.fieldLink RX4 52 "MarkdownPlannerModel" "taken" "I", Cond.methodLink RX4 41 yX4_in, Cond.static yX4_in, Cond.code yX4_in cX4_in 3 (some .boolean), Cond.methodLink RX4 45 yX4_asked, Cond.instanceMethod yX4_asked, Cond.selects RX4 yX4_asked yX4_asked, Cond.code yX4_asked cX4_asked 2 (some .boolean), Cond.fieldLink RX4 38 "MarkdownPlannerModel" "thrown" "I"]
def wsL_law0_r5 : List Cond := [Cond.methodLink RL 80 yX4_thrown, Cond.instanceMethod yX4_thrown, Cond.selects RX4 yX4_thrown yX4_thrown, Cond.code yX4_thrown cX4_thrown 1 (some .int), Cond.methodLink RL 83 yL_setPrice, Cond.static yL_setPrice, Cond.codeWith yL_setPrice cL_setPrice 5 (some .int) [(0, 10, 13, 13), (0, 10, 17, 19)], Cond.classLink RL 19 "java/lang/IllegalStateException", Cond.methodLink RL 15 yX3_setPrice, Cond.instanceMethod yX3_setPrice, Cond.selects RX3 yX3_setPrice yX3_setPrice, Cond.code yX3_setPrice cX3_setPrice 4 (some .int), Cond.classLink RX3 51 "java/lang/IllegalStateException", Cond.initialized "java/lang/IllegalStateException", Cond.methodLink RX3 44 yX3_requireStep, Cond.static yX3_requireStep, Cond.code yX3_requireStep cX3_requireStep 1 none, Cond.instanceMethod yX1_keepsLadderDown, Cond.selects RX1 yX1_keepsLadderDown yX1_keepsLadderDown, Cond.code yX1_keepsLadderDown cX1_keepsLadderDown 5 (some .boolean), Cond.methodLink RL 86 yX4_setPrice, Cond.instanceMethod yX4_setPrice, Cond.selects RX4 yX4_setPrice yX4_setPrice, Cond.code yX4_setPrice cX4_setPrice 6 (some .int)]
def wsL_law0_r6 : List Cond := [Cond.methodLink RX4 55 yX4_isStep, Cond.static yX4_isStep, Cond.code yX4_isStep cX4_isStep 1 (some .boolean), Cond.methodLink RX4 59 yX4_asked_, Cond.instanceMethod yX4_asked_, Cond.selects RX4 yX4_asked_ yX4_asked_, Cond.code yX4_asked_ cX4_asked_ 3 (some .boolean), Cond.methodLink RL 87 yL_setDemand, Cond.static yL_setDemand, Cond.codeWith yL_setDemand cL_setDemand 6 (some .int) [(0, 12, 15, 13)], Cond.methodLink RL 21 yX3_setDemand, Cond.instanceMethod yX3_setDemand, Cond.selects RX3 yX3_setDemand yX3_setDemand, Cond.code yX3_setDemand cX3_setDemand 6 (some .int), Cond.methodLink RX3 62 yX3_storeOf, Cond.instanceMethod yX3_storeOf, Cond.selects RX3 yX3_storeOf yX3_storeOf, Cond.code yX3_storeOf cX3_storeOf 2 (some (.object "MarkdownPlanner$Store")), Cond.methodLink RL 90 yX4_setDemand, Cond.instanceMethod yX4_setDemand, Cond.selects RX4 yX4_setDemand yX4_setDemand, Cond.code yX4_setDemand cX4_setDemand 5 (some .int), Cond.methodLink RX4 62 yX4_isStore, Cond.static yX4_isStore]
def wsL_law0_r7 : List Cond := [Cond.code yX4_isStore cX4_isStore 1 (some .boolean), Cond.methodLink RL 91 yL_setRules, Cond.static yL_setRules, Cond.codeWith yL_setRules cL_setRules 5 (some .int) [(0, 7, 10, 13)], Cond.methodLink RL 25 yX3_setRules, Cond.instanceMethod yX3_setRules, Cond.selects RX3 yX3_setRules yX3_setRules, Cond.code yX3_setRules cX3_setRules 4 none, Cond.methodLink RL 94 yX4_setRules, Cond.instanceMethod yX4_setRules, Cond.selects RX4 yX4_setRules yX4_setRules, Cond.code yX4_setRules cX4_setRules 4 none, Cond.fieldLink RX4 65 "MarkdownPlannerModel" "remnant" "I", Cond.fieldLink RX4 68 "MarkdownPlannerModel" "moving" "I", Cond.methodLink RL 95 yL_put, Cond.static yL_put, Cond.codeWith yL_put cL_put 6 (some .int) [(0, 12, 15, 13), (0, 12, 19, 19)], Cond.methodLink RL 29 yX3_put, Cond.instanceMethod yX3_put, Cond.selects RX3 yX3_put yX3_put, Cond.code yX3_put cX3_put 5 (some .int), Cond.methodLink RX3 78 yX3_requireSize, Cond.static yX3_requireSize, Cond.code yX3_requireSize cX3_requireSize 1 none]
def wsL_law0_r8 : List Cond := [Cond.methodLink RX3 81 yX3_requireRoomFor, Cond.static yX3_requireRoomFor, Cond.code yX3_requireRoomFor cX3_requireRoomFor 2 none, Cond.instanceMethod yX2_wholeStock, Cond.selects RX2 yX2_wholeStock yX2_wholeStock, Cond.code yX2_wholeStock cX2_wholeStock 3 (some .int), Cond.methodLink RL 97 yX4_put, Cond.instanceMethod yX4_put, Cond.selects RX4 yX4_put yX4_put, Cond.code yX4_put cX4_put 5 (some .int), Cond.methodLink RX4 71 yX4_isSize, Cond.static yX4_isSize, Cond.code yX4_isSize cX4_isSize 1 (some .boolean), Cond.methodLink RX4 74 yX4_whole, Cond.instanceMethod yX4_whole, Cond.selects RX4 yX4_whole yX4_whole, Cond.code yX4_whole cX4_whole 2 (some .int), Cond.methodLink RL 98 yL_markDown, Cond.static yL_markDown, Cond.codeWith yL_markDown cL_markDown 5 (some .int) [(0, 10, 13, 13), (0, 10, 17, 19)], Cond.methodLink RL 32 yX3_markDown, Cond.instanceMethod yX3_markDown, Cond.selects RX3 yX3_markDown yX3_markDown, Cond.code yX3_markDown cX3_markDown 4 (some .int)]
def wsL_law0_r9 : List Cond := [Cond.methodLink RX3 88 yX3_requireSeasonOn, Cond.instanceMethod yX3_requireSeasonOn, Cond.selects RX3 yX3_requireSeasonOn yX3_requireSeasonOn, Cond.code yX3_requireSeasonOn cX3_requireSeasonOn 1 none, Cond.instanceMethod yX2_waitFrom, Cond.selects RX2 yX2_waitFrom yX2_waitFrom, Cond.code yX2_waitFrom cX2_waitFrom 3 (some .int), Cond.methodLink RX2 28 Lib.Math.max.name, Cond.static Lib.Math.max.name, Cond.initialized "java/lang/Math", Cond.code Lib.Math.max.name Lib.Math.max.code 2 (some .int), Cond.methodLink RL 100 yX4_markDown, Cond.instanceMethod yX4_markDown, Cond.selects RX4 yX4_markDown yX4_markDown, Cond.code yX4_markDown cX4_markDown 4 (some .int), Cond.methodLink RX4 78 yX4_waits, Cond.instanceMethod yX4_waits, Cond.selects RX4 yX4_waits yX4_waits, Cond.code yX4_waits cX4_waits 3 (some .int), Cond.methodLink RL 101 yL_move, Cond.static yL_move, Cond.codeWith yL_move cL_move 7 (some .int) [(0, 14, 17, 13), (0, 14, 21, 19)], Cond.methodLink RL 35 yX3_move, Cond.instanceMethod yX3_move]
def wsL_law0_r10 : List Cond := [Cond.selects RX3 yX3_move yX3_move, Cond.code yX3_move cX3_move 8 (some .int), Cond.methodLink RL 104 yX4_move, Cond.instanceMethod yX4_move, Cond.selects RX4 yX4_move yX4_move, Cond.code yX4_move cX4_move 6 (some .int), Cond.methodLink RL 105 yL_run, Cond.static yL_run, Cond.codeWith yL_run cL_run 3 (some .int) [(0, 8, 11, 19)], Cond.methodLink RL 39 yX3_run, Cond.instanceMethod yX3_run, Cond.selects RX3 yX3_run yX3_run, Cond.code yX3_run cX3_run 6 (some .int), Cond.instanceMethod yX2_sellForAWeek, Cond.selects RX2 yX2_sellForAWeek yX2_sellForAWeek, Cond.code yX2_sellForAWeek cX2_sellForAWeek 3 (some .int), Cond.methodLink RX2 44 yX2_salesAt, Cond.instanceMethod yX2_salesAt, Cond.selects RX2 yX2_salesAt yX2_salesAt, Cond.code yX2_salesAt cX2_salesAt 2 (some .int), Cond.methodLink RX2 41 Lib.Math.min.name, Cond.static Lib.Math.min.name, Cond.code Lib.Math.min.name Lib.Math.min.code 2 (some .int), Cond.methodLink RX2 34 yX2_sizesInStock]
def wsL_law0_r11 : List Cond := [Cond.instanceMethod yX2_sizesInStock, Cond.selects RX2 yX2_sizesInStock yX2_sizesInStock, Cond.code yX2_sizesInStock cX2_sizesInStock 3 (some .int), Cond.methodLink RX2 38 yX2_wholeStock, Cond.methodLink RX2 48 yX2_fullestSize, Cond.instanceMethod yX2_fullestSize, Cond.selects RX2 yX2_fullestSize yX2_fullestSize, Cond.code yX2_fullestSize cX2_fullestSize 3 (some .int), Cond.methodLink RL 108 yX4_run, Cond.instanceMethod yX4_run, Cond.selects RX4 yX4_run yX4_run, Cond.code yX4_run cX4_run 6 (some .int), Cond.methodLink RX4 81 yX4_sells, Cond.instanceMethod yX4_sells, Cond.selects RX4 yX4_sells yX4_sells, Cond.code yX4_sells cX4_sells 5 (some .int), Cond.methodLink RL 109 yX3_week, Cond.instanceMethod yX3_week, Cond.selects RX3 yX3_week yX3_week, Cond.code yX3_week cX3_week 1 (some .int), Cond.methodLink RL 112 yX4_week, Cond.instanceMethod yX4_week, Cond.selects RX4 yX4_week yX4_week, Cond.code yX4_week cX4_week 1 (some .int)]
def wsL_law0_r12 : List Cond := [Cond.methodLink RX4 85 yX4_told, Cond.instanceMethod yX4_told, Cond.selects RX4 yX4_told yX4_told, Cond.code yX4_told cX4_told 2 (some .int), Cond.methodLink RL 113 yL_stock, Cond.static yL_stock, Cond.codeWith yL_stock cL_stock 5 (some .int) [(0, 10, 13, 13)], Cond.methodLink RL 43 yX3_stock, Cond.instanceMethod yX3_stock, Cond.selects RX3 yX3_stock yX3_stock, Cond.code yX3_stock cX3_stock 4 (some .int), Cond.methodLink RL 115 yX4_stock, Cond.instanceMethod yX4_stock, Cond.selects RX4 yX4_stock yX4_stock, Cond.code yX4_stock cX4_stock 3 (some .int), Cond.methodLink RL 116 yL_step, Cond.static yL_step, Cond.codeWith yL_step cL_step 4 (some .int) [(0, 9, 12, 13)], Cond.methodLink RL 46 yX3_step, Cond.instanceMethod yX3_step, Cond.selects RX3 yX3_step yX3_step, Cond.code yX3_step cX3_step 2 (some .int), Cond.methodLink RL 118 yX4_step, Cond.instanceMethod yX4_step]
def wsL_law0_r13 : List Cond := [Cond.selects RX4 yX4_step yX4_step, Cond.code yX4_step cX4_step 2 (some .int), Cond.methodLink RL 119 yL_weeksToWait, Cond.static yL_weeksToWait, Cond.codeWith yL_weeksToWait cL_weeksToWait 4 (some .int) [(0, 9, 12, 13)], Cond.methodLink RL 49 yX3_weeksToWait, Cond.instanceMethod yX3_weeksToWait, Cond.selects RX3 yX3_weeksToWait yX3_weeksToWait, Cond.code yX3_weeksToWait cX3_weeksToWait 2 (some .int), Cond.methodLink RL 121 yX4_weeksToWait, Cond.instanceMethod yX4_weeksToWait, Cond.selects RX4 yX4_weeksToWait yX4_weeksToWait, Cond.code yX4_weeksToWait cX4_weeksToWait 2 (some .int), Cond.methodLink RL 122 yL_sold, Cond.static yL_sold, Cond.codeWith yL_sold cL_sold 4 (some .int) [(0, 9, 12, 13)], Cond.methodLink RL 52 yX3_sold, Cond.instanceMethod yX3_sold, Cond.selects RX3 yX3_sold yX3_sold, Cond.code yX3_sold cX3_sold 2 (some .int), Cond.methodLink RL 124 yX4_sold, Cond.instanceMethod yX4_sold, Cond.selects RX4 yX4_sold yX4_sold, Cond.code yX4_sold cX4_sold 2 (some .int)]
def wsL_law0_r14 : List Cond := [Cond.methodLink RL 125 yX3_taken, Cond.instanceMethod yX3_taken, Cond.selects RX3 yX3_taken yX3_taken, Cond.code yX3_taken cX3_taken 1 (some .int), Cond.methodLink RL 128 yX4_taken, Cond.instanceMethod yX4_taken, Cond.selects RX4 yX4_taken yX4_taken, Cond.code yX4_taken cX4_taken 1 (some .int), Cond.methodLink RL 129 yL_wouldSell, Cond.static yL_wouldSell, Cond.codeWith yL_wouldSell cL_wouldSell 5 (some .int) [(0, 10, 13, 13)], Cond.methodLink RL 55 yX3_wouldSell, Cond.instanceMethod yX3_wouldSell, Cond.selects RX3 yX3_wouldSell yX3_wouldSell, Cond.code yX3_wouldSell cX3_wouldSell 4 (some .int), Cond.methodLink RL 131 yX4_wouldSell, Cond.instanceMethod yX4_wouldSell, Cond.selects RX4 yX4_wouldSell yX4_wouldSell, Cond.code yX4_wouldSell cX4_wouldSell 3 (some .int), Cond.methodLink RL 132 yL_best, Cond.static yL_best, Cond.codeWith yL_best cL_best 4 (some .int) [(0, 9, 12, 13)], Cond.methodLink RL 58 yX3_best, Cond.instanceMethod yX3_best]
def wsL_law0_r15 : List Cond := [Cond.selects RX3 yX3_best yX3_best, Cond.code yX3_best cX3_best 2 (some .int), Cond.instanceMethod yX0_lookAt, Cond.selects RX0 yX0_lookAt yX0_lookAt, Cond.code yX0_lookAt cX0_lookAt 3 none, Cond.methodLink RX0 27 arraycopyName, Cond.native arraycopyName, Cond.static arraycopyName, Cond.initialized "java/lang/System", Cond.fieldLink RX0 40 "MarkdownPlanner$Plans" "firstWeek" "I", Cond.fieldLink RX0 46 "MarkdownPlanner$Plans" "endWeek" "I", Cond.fieldLink RX0 52 "MarkdownPlanner$Plans" "gap" "I", Cond.fieldLink RX0 56 "MarkdownPlanner$Plans" "remnant" "I", Cond.methodLink RX0 61 Lib.Math.min.name, Cond.fieldLink RX0 66 "MarkdownPlanner$Plans" "freeWeek" "I", Cond.fieldLink RX0 72 "MarkdownPlanner$Plans" "ownStep" "I", Cond.fieldLink RX0 79 "MarkdownPlanner$Plans" "ownStock" "I", Cond.instanceMethod yX0_greatestWorth, Cond.selects RX0 yX0_greatestWorth yX0_greatestWorth, Cond.code yX0_greatestWorth cX0_greatestWorth 2 (some .int), Cond.methodLink RX0 82 yX0_tellWorths, Cond.instanceMethod yX0_tellWorths, Cond.selects RX0 yX0_tellWorths yX0_tellWorths, Cond.code yX0_tellWorths cX0_tellWorths 5 none]
def wsL_law0_r16 : List Cond := [Cond.fieldLink RX0 94 "MarkdownPlanner$Plans" "mostLeft" "I", Cond.methodLink RX0 97 yX0_placeOf, Cond.static yX0_placeOf, Cond.code yX0_placeOf cX0_placeOf 3 (some .int), Cond.methodLink RX0 100 yX0_worthOfChoosing, Cond.instanceMethod yX0_worthOfChoosing, Cond.selects RX0 yX0_worthOfChoosing yX0_worthOfChoosing, Cond.code yX0_worthOfChoosing cX0_worthOfChoosing 6 (some .int), Cond.methodLink RX0 106 Lib.Math.max.name, Cond.methodLink RX0 103 yX0_worthOfTaking, Cond.instanceMethod yX0_worthOfTaking, Cond.selects RX0 yX0_worthOfTaking yX0_worthOfTaking, Cond.code yX0_worthOfTaking cX0_worthOfTaking 5 (some .int), Cond.methodLink RX0 86 yX0_worthOfKeeping, Cond.instanceMethod yX0_worthOfKeeping, Cond.selects RX0 yX0_worthOfKeeping yX0_worthOfKeeping, Cond.code yX0_worthOfKeeping cX0_worthOfKeeping 8 (some .int), Cond.methodLink RX0 109 yX0_worthFrom, Cond.instanceMethod yX0_worthFrom, Cond.selects RX0 yX0_worthFrom yX0_worthFrom, Cond.code yX0_worthFrom cX0_worthFrom 4 (some .int), Cond.methodLink RL 134 yX4_best, Cond.instanceMethod yX4_best, Cond.selects RX4 yX4_best yX4_best]
def wsL_law0_r17 : List Cond := [Cond.code yX4_best cX4_best 2 (some .int), Cond.methodLink RX4 96 yX4_finds, Cond.instanceMethod yX4_finds, Cond.selects RX4 yX4_finds yX4_finds, Cond.code yX4_finds cX4_finds 9 (some .int), Cond.methodLink RX4 92 yX4_worthOf, Cond.instanceMethod yX4_worthOf, Cond.selects RX4 yX4_worthOf yX4_worthOf, Cond.code yX4_worthOf cX4_worthOf 10 (some .int), Cond.methodLink RX4 88 yX4_at, Cond.static yX4_at, Cond.code yX4_at cX4_at 4 (some .int), Cond.methodLink RL 135 yL_bestByAll, Cond.static yL_bestByAll, Cond.codeWith yL_bestByAll cL_bestByAll 4 (some .int) [(0, 9, 12, 13), (0, 9, 15, 19)], Cond.methodLink RL 61 yX3_bestByAll, Cond.instanceMethod yX3_bestByAll, Cond.selects RX3 yX3_bestByAll yX3_bestByAll, Cond.code yX3_bestByAll cX3_bestByAll 3 (some .int), Cond.instanceMethod yX0_greatestWorthByAll, Cond.selects RX0 yX0_greatestWorthByAll yX0_greatestWorthByAll, Cond.code yX0_greatestWorthByAll cX0_greatestWorthByAll 5 (some .int), Cond.constant RX0 112 (1000000), Cond.methodLink RX0 113 yX0_worthOfLadder]
def wsL_law0_r18 : List Cond := [Cond.instanceMethod yX0_worthOfLadder, Cond.selects RX0 yX0_worthOfLadder yX0_worthOfLadder, Cond.code yX0_worthOfLadder cX0_worthOfLadder 9 (some .int), Cond.methodLink RX0 117 yX0_turnToNextLadder, Cond.instanceMethod yX0_turnToNextLadder, Cond.selects RX0 yX0_turnToNextLadder yX0_turnToNextLadder, Cond.code yX0_turnToNextLadder cX0_turnToNextLadder 5 (some .boolean), Cond.methodLink RL 137 yX4_bestByAll, Cond.instanceMethod yX4_bestByAll, Cond.selects RX4 yX4_bestByAll yX4_bestByAll, Cond.code yX4_bestByAll cX4_bestByAll 3 (some .int), Cond.methodLink RL 138 yL_planned, Cond.static yL_planned, Cond.codeWith yL_planned cL_planned 5 (some .int) [(0, 10, 13, 13)], Cond.methodLink RL 64 yX3_planned, Cond.instanceMethod yX3_planned, Cond.selects RX3 yX3_planned yX3_planned, Cond.code yX3_planned cX3_planned 4 (some .int), Cond.instanceMethod yX0_bestStepIn, Cond.selects RX0 yX0_bestStepIn yX0_bestStepIn, Cond.code yX0_bestStepIn cX0_bestStepIn 7 (some .int), Cond.methodLink RX0 90 yX0_lowestBestStep, Cond.instanceMethod yX0_lowestBestStep, Cond.selects RX0 yX0_lowestBestStep yX0_lowestBestStep]
def wsL_law0_r19 : List Cond := [Cond.code yX0_lowestBestStep cX0_lowestBestStep 6 (some .int), Cond.methodLink RL 140 yX4_planned, Cond.instanceMethod yX4_planned, Cond.selects RX4 yX4_planned yX4_planned, Cond.code yX4_planned cX4_planned 10 (some .int), Cond.methodLink RL 141 yL_bestLeaving, Cond.static yL_bestLeaving, Cond.codeWith yL_bestLeaving cL_bestLeaving 5 (some .int) [(0, 10, 13, 13)], Cond.methodLink RL 67 yX3_bestLeaving, Cond.instanceMethod yX3_bestLeaving, Cond.selects RX3 yX3_bestLeaving yX3_bestLeaving, Cond.code yX3_bestLeaving cX3_bestLeaving 4 (some .int), Cond.methodLink RL 143 yX4_bestLeaving, Cond.instanceMethod yX4_bestLeaving, Cond.selects RX4 yX4_bestLeaving yX4_bestLeaving, Cond.code yX4_bestLeaving cX4_bestLeaving 3 (some .int)]
def wsL_law0 : List Cond := (wsL_law0_r1 ++ (wsL_law0_r2 ++ (wsL_law0_r3 ++ (wsL_law0_r4 ++ (wsL_law0_r5 ++ (wsL_law0_r6 ++ (wsL_law0_r7 ++ (wsL_law0_r8 ++ (wsL_law0_r9 ++ (wsL_law0_r10 ++ (wsL_law0_r11 ++ (wsL_law0_r12 ++ (wsL_law0_r13 ++ (wsL_law0_r14 ++ (wsL_law0_r15 ++ (wsL_law0_r16 ++ (wsL_law0_r17 ++ (wsL_law0_r18 ++ wsL_law0_r19)))))))))))))))))) ++ wsX30 ++ wsX40 ++ wsX10 ++ wsX00 ++ wsX20 ++ ([] : List Cond)
def wsL_law : List Cond := wsL_law0 ++ (vx_atS RX3 109 "java/lang/IllegalArgumentException" ["java/lang/RuntimeException", "java/lang/Exception"]).filter goodWord ++ (vx_atS RX3 55 "java/lang/IllegalStateException" ["java/lang/RuntimeException", "java/lang/Exception"]).filter goodWord
set_option maxRecDepth 20000 in
theorem wsL_law_p1 : ∀ w ∈ wsL_law0_r1, w ∈ lw_tbl := fun w h => (goodIn_r wsL_law0_r1 [45, 46, 33, 517, 518, 37, 693, 47, 48, 49, 50, 51, 52, 53, 54, 34, 165, 92, 166, 94, 95, 35, 167, 137] (by decide +kernel) (by decide +kernel) w h).1
set_option maxRecDepth 20000 in
theorem wsL_law_p2 : ∀ w ∈ wsL_law0_r2, w ∈ lw_tbl := fun w h => (goodIn_r wsL_law0_r2 [36, 56, 57, 58, 91, 59, 62, 68, 97, 98, 99, 100, 101, 102, 103, 139, 140, 141, 142, 145, 150, 519, 520, 521] (by decide +kernel) (by decide +kernel) w h).1
set_option maxRecDepth 20000 in
theorem wsL_law_p3 : ∀ w ∈ wsL_law0_r3, w ∈ lw_tbl := fun w h => (goodIn_r wsL_law0_r3 [522, 523, 525, 526, 527, 530, 531, 532, 533, 535, 183, 184, 32, 185, 186, 187, 188, 189, 190, 191, 192, 193, 194, 41] (by decide +kernel) (by decide +kernel) w h).1
set_option maxRecDepth 20000 in
theorem wsL_law_p4 : ∀ w ∈ wsL_law0_r4, w ∈ lw_tbl := fun w h => (goodIn_r wsL_law0_r4 [263, 1, 264, 65, 74, 267, 2, 268, 147, 152, 570, 571, 572, 573, 524, 534, 574, 575, 576, 577, 579, 24, 580, 536] (by decide +kernel) (by decide +kernel) w h).1
set_option maxRecDepth 20000 in
theorem wsL_law_p5 : ∀ w ∈ wsL_law0_r5, w ∈ lw_tbl := fun w h => (goodIn_r wsL_law0_r5 [566, 567, 568, 569, 269, 270, 271, 272, 273, 274, 275, 276, 284, 42, 277, 278, 279, 282, 3, 283, 581, 582, 583, 584] (by decide +kernel) (by decide +kernel) w h).1
set_option maxRecDepth 20000 in
theorem wsL_law_p6 : ∀ w ∈ wsL_law0_r6, w ∈ lw_tbl := fun w h => (goodIn_r wsL_law0_r6 [585, 586, 587, 588, 590, 25, 591, 300, 301, 302, 303, 304, 305, 306, 307, 309, 4, 310, 592, 593, 594, 595, 596, 597] (by decide +kernel) (by decide +kernel) w h).1
set_option maxRecDepth 20000 in
theorem wsL_law_p7 : ∀ w ∈ wsL_law0_r7, w ∈ lw_tbl := fun w h => (goodIn_r wsL_law0_r7 [598, 311, 312, 313, 314, 315, 316, 317, 599, 600, 601, 602, 528, 529, 318, 319, 320, 321, 322, 323, 324, 325, 326, 327] (by decide +kernel) (by decide +kernel) w h).1
set_option maxRecDepth 20000 in
theorem wsL_law_p8 : ∀ w ∈ wsL_law0_r8, w ∈ lw_tbl := fun w h => (goodIn_r wsL_law0_r8 [328, 329, 330, 333, 5, 334, 603, 604, 605, 606, 607, 608, 609, 610, 612, 26, 613, 336, 337, 338, 339, 340, 341, 342] (by decide +kernel) (by decide +kernel) w h).1
set_option maxRecDepth 20000 in
theorem wsL_law_p9 : ∀ w ∈ wsL_law0_r9, w ∈ lw_tbl := fun w h => (goodIn_r wsL_law0_r9 [343, 345, 6, 346, 351, 7, 352, 353, 354, 43, 355, 614, 615, 616, 617, 618, 620, 27, 621, 357, 358, 359, 360, 361] (by decide +kernel) (by decide +kernel) w h).1
set_option maxRecDepth 20000 in
theorem wsL_law_p10 : ∀ w ∈ wsL_law0_r10, w ∈ lw_tbl := fun w h => (goodIn_r wsL_law0_r10 [362, 363, 622, 623, 624, 625, 366, 367, 368, 369, 370, 371, 372, 375, 8, 376, 377, 379, 9, 380, 386, 387, 388, 381] (by decide +kernel) (by decide +kernel) w h).1
set_option maxRecDepth 20000 in
theorem wsL_law_p11 : ∀ w ∈ wsL_law0_r11, w ∈ lw_tbl := fun w h => (goodIn_r wsL_law0_r11 [383, 10, 384, 385, 389, 391, 11, 392, 626, 627, 628, 629, 630, 632, 28, 633, 175, 176, 177, 178, 634, 635, 636, 637] (by decide +kernel) (by decide +kernel) w h).1
set_option maxRecDepth 20000 in
theorem wsL_law_p12 : ∀ w ∈ wsL_law0_r12, w ∈ lw_tbl := fun w h => (goodIn_r wsL_law0_r12 [638, 640, 29, 641, 393, 394, 395, 396, 397, 398, 399, 642, 643, 644, 645, 400, 401, 402, 403, 404, 405, 406, 646, 647] (by decide +kernel) (by decide +kernel) w h).1
set_option maxRecDepth 20000 in
theorem wsL_law_p13 : ∀ w ∈ wsL_law0_r13, w ∈ lw_tbl := fun w h => (goodIn_r wsL_law0_r13 [648, 649, 407, 408, 409, 410, 411, 412, 413, 650, 651, 652, 653, 414, 415, 416, 417, 418, 419, 420, 654, 655, 656, 657] (by decide +kernel) (by decide +kernel) w h).1
set_option maxRecDepth 20000 in
theorem wsL_law_p14 : ∀ w ∈ wsL_law0_r14, w ∈ lw_tbl := fun w h => (goodIn_r wsL_law0_r14 [179, 180, 181, 182, 658, 659, 660, 661, 421, 422, 423, 424, 425, 426, 427, 662, 663, 664, 665, 429, 430, 431, 432, 433] (by decide +kernel) (by decide +kernel) w h).1
set_option maxRecDepth 20000 in
theorem wsL_law_p15 : ∀ w ∈ wsL_law0_r15, w ∈ lw_tbl := fun w h => (goodIn_r wsL_law0_r15 [434, 435, 438, 12, 439, 440, 442, 441, 44, 104, 106, 107, 108, 444, 105, 109, 110, 448, 13, 449, 450, 452, 14, 453] (by decide +kernel) (by decide +kernel) w h).1
set_option maxRecDepth 20000 in
theorem wsL_law_p16 : ∀ w ∈ wsL_law0_r16, w ∈ lw_tbl := fun w h => (goodIn_r wsL_law0_r16 [111, 454, 455, 456, 457, 459, 15, 460, 473, 461, 463, 16, 464, 465, 467, 17, 468, 469, 471, 18, 472, 666, 667, 668] (by decide +kernel) (by decide +kernel) w h).1
set_option maxRecDepth 20000 in
theorem wsL_law_p17 : ∀ w ∈ wsL_law0_r17, w ∈ lw_tbl := fun w h => (goodIn_r wsL_law0_r17 [669, 670, 672, 30, 673, 674, 676, 31, 677, 678, 679, 680, 474, 475, 476, 477, 478, 479, 480, 484, 19, 485, 486, 487] (by decide +kernel) (by decide +kernel) w h).1
set_option maxRecDepth 20000 in
theorem wsL_law_p18 : ∀ w ∈ wsL_law0_r18, w ∈ lw_tbl := fun w h => (goodIn_r wsL_law0_r18 [489, 20, 490, 491, 493, 21, 494, 681, 682, 683, 684, 495, 496, 497, 498, 499, 500, 501, 504, 22, 505, 506, 508, 23] (by decide +kernel) (by decide +kernel) w h).1
set_option maxRecDepth 20000 in
theorem wsL_law_p19 : ∀ w ∈ wsL_law0_r19, w ∈ lw_tbl := fun w h => (goodIn_r wsL_law0_r19 [509, 685, 686, 687, 688, 510, 511, 512, 513, 514, 515, 516, 689, 690, 691, 692] (by decide +kernel) (by decide +kernel) w h).1
set_option maxRecDepth 20000 in
theorem wsL_law_qwsX00 : ∀ w ∈ wsX00, w ∈ lw_tbl := fun w h => (goodIn_r wsX00 [112, 114, 116, 118, 120, 122, 124, 126, 128, 130, 132, 134] (by decide +kernel) (by decide +kernel) w h).1
set_option maxRecDepth 20000 in
theorem wsL_law_qwsX10 : ∀ w ∈ wsX10, w ∈ lw_tbl := fun w h => (goodIn_r wsX10 [76, 78, 80, 82, 84, 86, 88] (by decide +kernel) (by decide +kernel) w h).1
set_option maxRecDepth 20000 in
theorem wsL_law_qwsX20 : ∀ w ∈ wsX20, w ∈ lw_tbl := fun w h => (goodIn_r wsX20 [154, 156, 158, 160, 162] (by decide +kernel) (by decide +kernel) w h).1
set_option maxRecDepth 20000 in
theorem wsL_law_qwsX30 : ∀ w ∈ wsX30, w ∈ lw_tbl := fun w h => (goodIn_r wsX30 [168, 170, 172] (by decide +kernel) (by decide +kernel) w h).1
set_option maxRecDepth 20000 in
theorem wsL_law_qwsX40 : ∀ w ∈ wsX40, w ∈ lw_tbl := fun w h => (goodIn_r wsX40 [537, 539, 541, 543, 545, 547, 549, 551, 553, 555, 557, 559, 561, 563] (by decide +kernel) (by decide +kernel) w h).1
theorem mem_app2 {α : Type} {a b : List α} {P : α → Prop} (h1 : ∀ w ∈ a, P w) (h2 : ∀ w ∈ b, P w) : ∀ w ∈ a ++ b, P w := fun w h => (List.mem_append.mp h).elim (h1 w) (h2 w)
theorem wsL_law_in0 : ∀ w ∈ wsL_law0, w ∈ lw_tbl := by
  unfold wsL_law0
  exact mem_app2 (mem_app2 (mem_app2 (mem_app2 (mem_app2 (mem_app2 (mem_app2 wsL_law_p1 (mem_app2 wsL_law_p2 (mem_app2 wsL_law_p3 (mem_app2 wsL_law_p4 (mem_app2 wsL_law_p5 (mem_app2 wsL_law_p6 (mem_app2 wsL_law_p7 (mem_app2 wsL_law_p8 (mem_app2 wsL_law_p9 (mem_app2 wsL_law_p10 (mem_app2 wsL_law_p11 (mem_app2 wsL_law_p12 (mem_app2 wsL_law_p13 (mem_app2 wsL_law_p14 (mem_app2 wsL_law_p15 (mem_app2 wsL_law_p16 (mem_app2 wsL_law_p17 (mem_app2 wsL_law_p18 wsL_law_p19)))))))))))))))))) wsL_law_qwsX30) wsL_law_qwsX40) wsL_law_qwsX10) wsL_law_qwsX00) wsL_law_qwsX20) (fun w h => absurd h List.not_mem_nil)
theorem wsL_law_x0 : ∀ w ∈ (vx_atS RX3 109 "java/lang/IllegalArgumentException" ["java/lang/RuntimeException", "java/lang/Exception"]).filter goodWord, w ∈ lw_tbl := by decide +kernel
theorem wsL_law_x1 : ∀ w ∈ (vx_atS RX3 55 "java/lang/IllegalStateException" ["java/lang/RuntimeException", "java/lang/Exception"]).filter goodWord, w ∈ lw_tbl := by decide +kernel
theorem wsL_law_in : ∀ w ∈ wsL_law, w ∈ lw_tbl := fun w h => (List.mem_append.mp h).elim (fun h => (List.mem_append.mp h).elim (fun h => wsL_law_in0 w h) (fun h => wsL_law_x0 w h)) (fun h => wsL_law_x1 w h)
theorem inlX0 : ∀ w ∈ wsX00, w ∈ wsL_law := fun _ h => List.mem_append_left _ (List.mem_append_left _ (List.mem_append_left _ (List.mem_append_left _ (List.mem_append_right _ h))))
theorem inX0 : ∀ w ∈ wsX00, w ∈ lw_tbl := fun w h => wsL_law_in w (inlX0 w h)
theorem inlX1 : ∀ w ∈ wsX10, w ∈ wsL_law := fun _ h => List.mem_append_left _ (List.mem_append_left _ (List.mem_append_left _ (List.mem_append_left _ (List.mem_append_left _ (List.mem_append_right _ h)))))
theorem inX1 : ∀ w ∈ wsX10, w ∈ lw_tbl := fun w h => wsL_law_in w (inlX1 w h)
theorem inlX2 : ∀ w ∈ wsX20, w ∈ wsL_law := fun _ h => List.mem_append_left _ (List.mem_append_left _ (List.mem_append_left _ (List.mem_append_right _ h)))
theorem inX2 : ∀ w ∈ wsX20, w ∈ lw_tbl := fun w h => wsL_law_in w (inlX2 w h)
theorem inlX3 : ∀ w ∈ wsX30, w ∈ wsL_law := fun _ h => List.mem_append_left _ (List.mem_append_left _ (List.mem_append_left _ (List.mem_append_left _ (List.mem_append_left _ (List.mem_append_left _ (List.mem_append_left _ (List.mem_append_right _ h)))))))
theorem inX3 : ∀ w ∈ wsX30, w ∈ lw_tbl := fun w h => wsL_law_in w (inlX3 w h)
theorem inlX4 : ∀ w ∈ wsX40, w ∈ wsL_law := fun _ h => List.mem_append_left _ (List.mem_append_left _ (List.mem_append_left _ (List.mem_append_left _ (List.mem_append_left _ (List.mem_append_left _ (List.mem_append_right _ h))))))
theorem inX4 : ∀ w ∈ wsX40, w ∈ lw_tbl := fun w h => wsL_law_in w (inlX4 w h)
theorem inJ9 : ∀ w ∈ wsJ90, w ∈ lw_tbl := by decide +kernel
theorem inJ0 : ∀ w ∈ wsJ00, w ∈ lw_tbl := by decide +kernel
theorem inJ10 : ∀ w ∈ wsJ100, w ∈ lw_tbl := by decide +kernel
set_option maxRecDepth 20000 in
theorem ggX0_lookAt_X2_waitFrom : GoodIn wsX0_lookAt wsX2_waitFrom := goodIn_r _ [21, 22, 23, 24, 13, 25, 49, 50, 51, 52, 53] (by decide +kernel) (by decide +kernel)
set_option maxRecDepth 20000 in
theorem gX0_lookAt_X2_waitFrom_n57 : GoodIn wsX0_lookAt (wsX2_waitFrom) := ggX0_lookAt_X2_waitFrom
set_option maxRecDepth 20000 in
theorem ggX0_lookAt_X2_wholeStock : GoodIn wsX0_lookAt wsX2_wholeStock := goodIn_r _ [28, 29, 49, 50, 51, 52, 53] (by decide +kernel) (by decide +kernel)
set_option maxRecDepth 20000 in
theorem gX0_lookAt_X2_wholeStock_n75 : GoodIn wsX0_lookAt (wsX2_wholeStock) := ggX0_lookAt_X2_wholeStock
set_option maxRecDepth 20000 in
theorem ggX0_greatestWorth_X0_tellWorths : GoodIn wsX0_greatestWorth wsX0_tellWorths := goodIn_r _ [9, 10, 11, 3, 2, 4, 12, 13, 14, 8, 15, 16, 17, 18, 19, 20, 21, 22, 23, 24, 25, 26, 27, 28, 29, 30, 31, 32, 33, 34, 35, 36, 37, 38, 39, 40, 41, 42, 43, 44, 45, 46, 47, 48, 49, 50, 51, 52, 53, 54] (by decide +kernel) (by decide +kernel)
set_option maxRecDepth 20000 in
theorem gX0_greatestWorth_X0_tellWorths : GoodIn wsX0_greatestWorth (wsV RX0 82 RX0 yX0_tellWorths wsX0_tellWorths) := goodIn_app (goodIn_of _ (by decide +kernel)) ggX0_greatestWorth_X0_tellWorths
set_option maxRecDepth 20000 in
theorem ggX0_greatestWorth_X0_worthOfKeeping : GoodIn wsX0_greatestWorth wsX0_worthOfKeeping := goodIn_r _ [32, 11, 33, 34, 22, 35, 36, 37, 38, 39, 40, 8, 41, 12, 10, 42, 13, 14, 15, 43, 44, 45, 46, 47, 48, 49, 50, 51, 52, 53, 54] (by decide +kernel) (by decide +kernel)
set_option maxRecDepth 20000 in
theorem gX0_greatestWorth_X0_worthOfKeeping : GoodIn wsX0_greatestWorth (wsV RX0 86 RX0 yX0_worthOfKeeping wsX0_worthOfKeeping) := goodIn_app (goodIn_of _ (by decide +kernel)) ggX0_greatestWorth_X0_worthOfKeeping
set_option maxRecDepth 20000 in
theorem ggX0_bestStepIn_X0_tellWorths : GoodIn wsX0_bestStepIn wsX0_tellWorths := goodIn_r _ [15, 16, 17, 3, 1, 2, 18, 19, 20, 14, 21, 22, 23, 24, 25, 26, 27, 9, 28, 29, 30, 31, 32, 5, 33, 34, 35, 36, 7, 8, 10, 6, 37, 38, 39, 40, 41, 42, 47, 48, 49, 50, 51, 52, 53, 54, 55, 56, 57, 58] (by decide +kernel) (by decide +kernel)
set_option maxRecDepth 20000 in
theorem gX0_bestStepIn_X0_tellWorths : GoodIn wsX0_bestStepIn (wsV RX0 82 RX0 yX0_tellWorths wsX0_tellWorths) := goodIn_app (goodIn_of _ (by decide +kernel)) ggX0_bestStepIn_X0_tellWorths
set_option maxRecDepth 20000 in
theorem ggX0_bestStepIn_X0_lowestBestStep : GoodIn wsX0_bestStepIn wsX0_lowestBestStep := goodIn_r _ [46, 38, 39, 40, 14, 41, 17, 18, 16, 42, 19, 20, 21, 29, 30, 31, 32, 5, 33, 34, 35, 36, 7, 8, 9, 10, 6, 37, 47, 48, 49, 50, 51, 52, 53, 54, 55, 56, 57, 58] (by decide +kernel) (by decide +kernel)
set_option maxRecDepth 20000 in
theorem gX0_bestStepIn_X0_lowestBestStep : GoodIn wsX0_bestStepIn (wsV RX0 90 RX0 yX0_lowestBestStep wsX0_lowestBestStep) := goodIn_app (goodIn_of _ (by decide +kernel)) ggX0_bestStepIn_X0_lowestBestStep
set_option maxRecDepth 20000 in
theorem ggX0_tellWorths_X0_placeOf : GoodIn wsX0_tellWorths wsX0_placeOf := goodIn_r _ [10] (by decide +kernel) (by decide +kernel)
set_option maxRecDepth 20000 in
theorem gX0_tellWorths_X0_placeOf : GoodIn wsX0_tellWorths (va_wsS RX0 97 yX0_placeOf wsX0_placeOf) := goodIn_app (goodIn_of _ (by decide +kernel)) ggX0_tellWorths_X0_placeOf
set_option maxRecDepth 20000 in
theorem ggX0_tellWorths_X0_worthOfChoosing : GoodIn wsX0_tellWorths wsX0_worthOfChoosing := goodIn_r _ [14, 15, 16, 17, 18, 19, 20, 21, 9, 22, 23, 24, 25, 26, 27, 2, 28, 29, 30, 31, 32, 33, 34, 35, 36, 6, 1, 37, 7, 8, 10, 38, 39, 40, 41, 42, 43, 44, 45, 46, 47, 48, 49] (by decide +kernel) (by decide +kernel)
set_option maxRecDepth 20000 in
theorem gX0_tellWorths_X0_worthOfChoosing : GoodIn wsX0_tellWorths (wsV RX0 100 RX0 yX0_worthOfChoosing wsX0_worthOfChoosing) := goodIn_app (goodIn_of _ (by decide +kernel)) ggX0_tellWorths_X0_worthOfChoosing
set_option maxRecDepth 20000 in
theorem ggX0_worthOfChoosing_X0_worthOfTaking : GoodIn wsX0_worthOfChoosing wsX0_worthOfTaking := goodIn_r _ [9, 10, 11, 12, 13, 8, 14, 15, 16, 17, 3, 18, 19, 20, 21, 22, 23, 24, 25, 26, 27, 28, 29, 30, 31, 32, 33, 34, 35, 36, 37, 38, 39, 40, 41, 42] (by decide +kernel) (by decide +kernel)
set_option maxRecDepth 20000 in
theorem gX0_worthOfChoosing_X0_worthOfTaking : GoodIn wsX0_worthOfChoosing (wsV RX0 103 RX0 yX0_worthOfTaking wsX0_worthOfTaking) := goodIn_app (goodIn_of _ (by decide +kernel)) ggX0_worthOfChoosing_X0_worthOfTaking
set_option maxRecDepth 20000 in
theorem ggX0_lowestBestStep_X0_worthFrom : GoodIn wsX0_lowestBestStep wsX0_worthFrom := goodIn_r _ [5, 6, 7, 8, 9, 10, 11, 4, 12, 28, 29, 30, 31, 32, 33, 34, 35, 36, 37, 38, 39] (by decide +kernel) (by decide +kernel)
set_option maxRecDepth 20000 in
theorem gX0_lowestBestStep_X0_worthFrom : GoodIn wsX0_lowestBestStep (wsV RX0 109 RX0 yX0_worthFrom wsX0_worthFrom) := goodIn_app (goodIn_of _ (by decide +kernel)) ggX0_lowestBestStep_X0_worthFrom
set_option maxRecDepth 20000 in
theorem ggX0_lowestBestStep_X0_worthOfTaking : GoodIn wsX0_lowestBestStep wsX0_worthOfTaking := goodIn_r _ [16, 17, 18, 19, 20, 4, 21, 6, 22, 23, 24, 25, 26, 27, 1, 2, 3, 5, 7, 8, 9, 10, 11, 12, 28, 29, 30, 31, 32, 33, 34, 35, 36, 37, 38, 39] (by decide +kernel) (by decide +kernel)
set_option maxRecDepth 20000 in
theorem gX0_lowestBestStep_X0_worthOfTaking : GoodIn wsX0_lowestBestStep (wsV RX0 103 RX0 yX0_worthOfTaking wsX0_worthOfTaking) := goodIn_app (goodIn_of _ (by decide +kernel)) ggX0_lowestBestStep_X0_worthOfTaking
set_option maxRecDepth 20000 in
theorem ggX0_worthOfTaking_X0_worthOfKeeping : GoodIn wsX0_worthOfTaking wsX0_worthOfKeeping := goodIn_r _ [6, 7, 8, 9, 10, 11, 12, 13, 14, 15, 16, 5, 17, 18, 19, 20, 21, 22, 23, 24, 25, 26, 27, 28, 29, 30, 31, 32, 33, 34, 35] (by decide +kernel) (by decide +kernel)
set_option maxRecDepth 20000 in
theorem gX0_worthOfTaking_X0_worthOfKeeping : GoodIn wsX0_worthOfTaking (wsV RX0 86 RX0 yX0_worthOfKeeping wsX0_worthOfKeeping) := goodIn_app (goodIn_of _ (by decide +kernel)) ggX0_worthOfTaking_X0_worthOfKeeping
set_option maxRecDepth 20000 in
theorem ggX0_worthOfKeeping_X0_worthFrom : GoodIn wsX0_worthOfKeeping wsX0_worthFrom := goodIn_r _ [12, 1, 13, 14, 15, 16, 17, 11, 18, 19, 20, 21, 22, 23, 24, 25, 26, 27, 28, 29, 30] (by decide +kernel) (by decide +kernel)
set_option maxRecDepth 20000 in
theorem gX0_worthOfKeeping_X0_worthFrom : GoodIn wsX0_worthOfKeeping (wsV RX0 109 RX0 yX0_worthFrom wsX0_worthFrom) := goodIn_app (goodIn_of _ (by decide +kernel)) ggX0_worthOfKeeping_X0_worthFrom
set_option maxRecDepth 20000 in
theorem ggX0_worthFrom_X0_placeOf : GoodIn wsX0_worthFrom wsX0_placeOf := goodIn_r _ [8] (by decide +kernel) (by decide +kernel)
set_option maxRecDepth 20000 in
theorem gX0_worthFrom_X0_placeOf : GoodIn wsX0_worthFrom (va_wsS RX0 97 yX0_placeOf wsX0_placeOf) := goodIn_app (goodIn_of _ (by decide +kernel)) ggX0_worthFrom_X0_placeOf
set_option maxRecDepth 20000 in
theorem ggX0_greatestWorthByAll_X0_worthOfLadder : GoodIn wsX0_greatestWorthByAll wsX0_worthOfLadder := goodIn_r _ [17, 8, 18, 19, 7, 2, 20, 21, 3, 4, 5, 6, 22, 23, 28, 29, 30, 31, 32, 33, 34, 35, 36, 37, 38, 39] (by decide +kernel) (by decide +kernel)
set_option maxRecDepth 20000 in
theorem gX0_greatestWorthByAll_X0_worthOfLadder : GoodIn wsX0_greatestWorthByAll (wsV RX0 113 RX0 yX0_worthOfLadder wsX0_worthOfLadder) := goodIn_app (goodIn_of _ (by decide +kernel)) ggX0_greatestWorthByAll_X0_worthOfLadder
set_option maxRecDepth 20000 in
theorem ggX0_greatestWorthByAll_X0_turnToNextLadder : GoodIn wsX0_greatestWorthByAll wsX0_turnToNextLadder := goodIn_r _ [27, 7, 28, 29, 30, 31, 32, 33, 34, 35, 36, 37, 38, 39] (by decide +kernel) (by decide +kernel)
set_option maxRecDepth 20000 in
theorem gX0_greatestWorthByAll_X0_turnToNextLadder : GoodIn wsX0_greatestWorthByAll (wsV RX0 117 RX0 yX0_turnToNextLadder wsX0_turnToNextLadder) := goodIn_app (goodIn_of _ (by decide +kernel)) ggX0_greatestWorthByAll_X0_turnToNextLadder
set_option maxRecDepth 20000 in
theorem ggX2_salesAt_X2_sizesInStock : GoodIn wsX2_salesAt wsX2_sizesInStock := goodIn_r _ [10, 11, 16, 17, 18, 19, 20] (by decide +kernel) (by decide +kernel)
set_option maxRecDepth 20000 in
theorem gX2_salesAt_X2_sizesInStock : GoodIn wsX2_salesAt (wsV RX2 34 RX2 yX2_sizesInStock wsX2_sizesInStock) := goodIn_app (goodIn_of _ (by decide +kernel)) ggX2_salesAt_X2_sizesInStock
set_option maxRecDepth 20000 in
theorem ggX2_salesAt_X2_wholeStock : GoodIn wsX2_salesAt wsX2_wholeStock := goodIn_r _ [15, 11, 16, 17, 18, 19, 20] (by decide +kernel) (by decide +kernel)
set_option maxRecDepth 20000 in
theorem gX2_salesAt_X2_wholeStock : GoodIn wsX2_salesAt (wsV RX2 38 RX2 yX2_wholeStock wsX2_wholeStock) := goodIn_app (goodIn_of _ (by decide +kernel)) ggX2_salesAt_X2_wholeStock
set_option maxRecDepth 20000 in
theorem ggX2_sellForAWeek_X2_salesAt : GoodIn wsX2_sellForAWeek wsX2_salesAt := goodIn_r _ [8, 9, 10, 11, 12, 13, 14, 15, 16, 7, 17, 2, 18, 19, 20, 21, 26, 27, 28, 29, 30] (by decide +kernel) (by decide +kernel)
set_option maxRecDepth 20000 in
theorem gX2_sellForAWeek_X2_salesAt : GoodIn wsX2_sellForAWeek (wsV RX2 44 RX2 yX2_salesAt wsX2_salesAt) := goodIn_app (goodIn_of _ (by decide +kernel)) ggX2_sellForAWeek_X2_salesAt
set_option maxRecDepth 20000 in
theorem ggX2_sellForAWeek_X2_fullestSize : GoodIn wsX2_sellForAWeek wsX2_fullestSize := goodIn_r _ [25, 2, 26, 27, 28, 29, 30] (by decide +kernel) (by decide +kernel)
set_option maxRecDepth 20000 in
theorem gX2_sellForAWeek_X2_fullestSize : GoodIn wsX2_sellForAWeek (wsV RX2 48 RX2 yX2_fullestSize wsX2_fullestSize) := goodIn_app (goodIn_of _ (by decide +kernel)) ggX2_sellForAWeek_X2_fullestSize
set_option maxRecDepth 20000 in
theorem ggX3_init_X1_init : GoodIn wsX3_init wsX1_init := goodIn_r _ [17, 18, 2, 3, 19, 20, 21, 22, 36, 37, 38, 39, 40, 41, 42] (by decide +kernel) (by decide +kernel)
set_option maxRecDepth 20000 in
theorem gX3_init_X1_init_n11 : GoodIn wsX3_init (wsX1_init) := ggX3_init_X1_init
set_option maxRecDepth 20000 in
theorem ggX3_init_X0_init : GoodIn wsX3_init wsX0_init := goodIn_r _ [24, 25, 2, 3, 19, 26, 27, 28, 29, 46, 47, 48, 49, 50, 51, 52, 53, 54, 55, 56, 57] (by decide +kernel) (by decide +kernel)
set_option maxRecDepth 20000 in
theorem gX3_init_X0_init_n24 : GoodIn wsX3_init (wsX0_init) := ggX3_init_X0_init
set_option maxRecDepth 20000 in
theorem ggX3_init_X2_init : GoodIn wsX3_init wsX2_init := goodIn_r _ [31, 32, 2, 3, 19, 33, 34, 35, 58, 59, 60, 61, 62] (by decide +kernel) (by decide +kernel)
set_option maxRecDepth 20000 in
theorem gX3_init_X2_init_n29 : GoodIn wsX3_init (wsX2_init) := ggX3_init_X2_init
set_option maxRecDepth 20000 in
theorem ggX3_begin_X3_requireWithin : GoodIn wsX3_begin wsX3_requireWithin := goodIn_ca (goodIn_r _ [6, 7, 8] (by decide +kernel) (by decide +kernel)) (goodIn_sub (fun _ h => List.mem_cons_of_mem _ (List.mem_append_right _ h)) (by decide +kernel))
set_option maxRecDepth 20000 in
theorem gX3_begin_X3_requireWithin : GoodIn wsX3_begin (va_wsS RX3 30 yX3_requireWithin wsX3_requireWithin) := goodIn_app (goodIn_of _ (by decide +kernel)) ggX3_begin_X3_requireWithin
set_option maxRecDepth 20000 in
theorem ggX3_begin_X1_startAnew : GoodIn wsX3_begin wsX1_startAnew := goodIn_r _ [12, 13, 14, 15, 26, 27, 28, 29, 30, 31, 32] (by decide +kernel) (by decide +kernel)
set_option maxRecDepth 20000 in
theorem gX3_begin_X1_startAnew_n38 : GoodIn wsX3_begin (wsX1_startAnew) := ggX3_begin_X1_startAnew
set_option maxRecDepth 20000 in
theorem ggX3_begin_X2_startAnew : GoodIn wsX3_begin wsX2_startAnew := goodIn_r _ [19, 20, 21, 22, 33, 34, 35, 36, 37] (by decide +kernel) (by decide +kernel)
set_option maxRecDepth 20000 in
theorem gX3_begin_X2_startAnew_n42 : GoodIn wsX3_begin (wsX2_startAnew) := ggX3_begin_X2_startAnew
set_option maxRecDepth 20000 in
theorem ggX3_setPrice_X3_requireStep : GoodIn wsX3_setPrice wsX3_requireStep := goodIn_ca (goodIn_r _ [7, 8, 9, 6, 10, 11, 12] (by decide +kernel) (by decide +kernel)) (goodIn_sub (fun _ h => List.mem_cons_of_mem _ (List.mem_append_right _ h)) (by decide +kernel))
set_option maxRecDepth 20000 in
theorem gX3_setPrice_X3_requireStep : GoodIn wsX3_setPrice (va_wsS RX3 44 yX3_requireStep wsX3_requireStep) := goodIn_app (goodIn_of _ (by decide +kernel)) ggX3_setPrice_X3_requireStep
set_option maxRecDepth 20000 in
theorem ggX3_setPrice_X3_requireWithin : GoodIn wsX3_setPrice wsX3_requireWithin := goodIn_ca (goodIn_r _ [10, 11, 12] (by decide +kernel) (by decide +kernel)) (goodIn_sub (fun _ h => List.mem_cons_of_mem _ (List.mem_append_right _ h)) (by decide +kernel))
set_option maxRecDepth 20000 in
theorem gX3_setPrice_X3_requireWithin : GoodIn wsX3_setPrice (va_wsS RX3 30 yX3_requireWithin wsX3_requireWithin) := goodIn_app (goodIn_of _ (by decide +kernel)) ggX3_setPrice_X3_requireWithin
set_option maxRecDepth 20000 in
theorem ggX3_setPrice_X1_keepsLadderDown : GoodIn wsX3_setPrice wsX1_keepsLadderDown := goodIn_r _ [16, 17, 21, 22, 23, 24, 25, 26, 27] (by decide +kernel) (by decide +kernel)
set_option maxRecDepth 20000 in
theorem gX3_setPrice_X1_keepsLadderDown_n47 : GoodIn wsX3_setPrice (wsX1_keepsLadderDown) := ggX3_setPrice_X1_keepsLadderDown
set_option maxRecDepth 20000 in
theorem ggX3_setDemand_X3_storeOf : GoodIn wsX3_setDemand wsX3_storeOf := goodIn_ca (goodIn_r _ [5, 6, 7, 8, 4, 9, 10, 11, 20, 21, 22] (by decide +kernel) (by decide +kernel)) (goodIn_sub (fun _ h => List.mem_cons_of_mem _ (List.mem_append_right _ h)) (by decide +kernel))
set_option maxRecDepth 20000 in
theorem gX3_setDemand_X3_storeOf : GoodIn wsX3_setDemand (wsV RX3 62 RX3 yX3_storeOf wsX3_storeOf) := goodIn_app (goodIn_of _ (by decide +kernel)) ggX3_setDemand_X3_storeOf
set_option maxRecDepth 20000 in
theorem ggX3_setDemand_X3_requireStep : GoodIn wsX3_setDemand wsX3_requireStep := goodIn_ca (goodIn_r _ [14, 7, 8, 4, 9, 10, 11] (by decide +kernel) (by decide +kernel)) (goodIn_sub (fun _ h => List.mem_cons_of_mem _ (List.mem_append_right _ h)) (by decide +kernel))
set_option maxRecDepth 20000 in
theorem gX3_setDemand_X3_requireStep : GoodIn wsX3_setDemand (va_wsS RX3 44 yX3_requireStep wsX3_requireStep) := goodIn_app (goodIn_of _ (by decide +kernel)) ggX3_setDemand_X3_requireStep
set_option maxRecDepth 20000 in
theorem ggX3_setDemand_X3_requireWithin : GoodIn wsX3_setDemand wsX3_requireWithin := goodIn_ca (goodIn_r _ [9, 10, 11] (by decide +kernel) (by decide +kernel)) (goodIn_sub (fun _ h => List.mem_cons_of_mem _ (List.mem_append_right _ h)) (by decide +kernel))
set_option maxRecDepth 20000 in
theorem gX3_setDemand_X3_requireWithin : GoodIn wsX3_setDemand (va_wsS RX3 30 yX3_requireWithin wsX3_requireWithin) := goodIn_app (goodIn_of _ (by decide +kernel)) ggX3_setDemand_X3_requireWithin
set_option maxRecDepth 20000 in
theorem ggX3_setRules_X3_requireWithin : GoodIn wsX3_setRules wsX3_requireWithin := goodIn_ca (goodIn_r _ [5, 6, 7] (by decide +kernel) (by decide +kernel)) (goodIn_sub (fun _ h => List.mem_cons_of_mem _ (List.mem_append_right _ h)) (by decide +kernel))
set_option maxRecDepth 20000 in
theorem gX3_setRules_X3_requireWithin : GoodIn wsX3_setRules (va_wsS RX3 30 yX3_requireWithin wsX3_requireWithin) := goodIn_app (goodIn_of _ (by decide +kernel)) ggX3_setRules_X3_requireWithin
set_option maxRecDepth 20000 in
theorem ggX3_put_X3_storeOf : GoodIn wsX3_put wsX3_storeOf := goodIn_ca (goodIn_r _ [5, 6, 7, 8, 4, 9, 10, 11, 30, 31, 32] (by decide +kernel) (by decide +kernel)) (goodIn_sub (fun _ h => List.mem_cons_of_mem _ (List.mem_append_left _ (List.mem_append_right _ h))) (by decide +kernel))
set_option maxRecDepth 20000 in
theorem gX3_put_X3_storeOf : GoodIn wsX3_put (wsV RX3 62 RX3 yX3_storeOf wsX3_storeOf) := goodIn_app (goodIn_of _ (by decide +kernel)) ggX3_put_X3_storeOf
set_option maxRecDepth 20000 in
theorem ggX3_put_X3_requireSize : GoodIn wsX3_put wsX3_requireSize := goodIn_ca (goodIn_r _ [14, 7, 8, 4, 9, 10, 11] (by decide +kernel) (by decide +kernel)) (goodIn_sub (fun _ h => List.mem_cons_of_mem _ (List.mem_append_left _ (List.mem_append_right _ h))) (by decide +kernel))
set_option maxRecDepth 20000 in
theorem gX3_put_X3_requireSize : GoodIn wsX3_put (va_wsS RX3 78 yX3_requireSize wsX3_requireSize) := goodIn_app (goodIn_of _ (by decide +kernel)) ggX3_put_X3_requireSize
set_option maxRecDepth 20000 in
theorem ggX3_put_X3_requireWithin : GoodIn wsX3_put wsX3_requireWithin := goodIn_ca (goodIn_r _ [9, 10, 11] (by decide +kernel) (by decide +kernel)) (goodIn_sub (fun _ h => List.mem_cons_of_mem _ (List.mem_append_left _ (List.mem_append_right _ h))) (by decide +kernel))
set_option maxRecDepth 20000 in
theorem gX3_put_X3_requireWithin : GoodIn wsX3_put (va_wsS RX3 30 yX3_requireWithin wsX3_requireWithin) := goodIn_app (goodIn_of _ (by decide +kernel)) ggX3_put_X3_requireWithin
set_option maxRecDepth 20000 in
theorem ggX3_put_X3_requireRoomFor : GoodIn wsX3_put wsX3_requireRoomFor := goodIn_ca (goodIn_r _ [17, 18, 19, 20, 21, 22, 23, 24, 25, 26, 27, 28, 29] (by decide +kernel) (by decide +kernel)) (goodIn_sub (fun _ h => List.mem_cons_of_mem _ (List.mem_append_right _ h)) (by decide +kernel))
set_option maxRecDepth 20000 in
theorem gX3_put_X3_requireRoomFor : GoodIn wsX3_put (va_wsS RX3 81 yX3_requireRoomFor wsX3_requireRoomFor) := goodIn_app (goodIn_of _ (by decide +kernel)) ggX3_put_X3_requireRoomFor
set_option maxRecDepth 20000 in
theorem ggX3_markDown_X3_storeOf : GoodIn wsX3_markDown wsX3_storeOf := goodIn_ca (goodIn_r _ [8, 9, 10, 11, 7, 12, 13, 14, 36, 37, 38] (by decide +kernel) (by decide +kernel)) (goodIn_sub (fun _ h => List.mem_cons_of_mem _ (List.mem_append_right _ h)) (by decide +kernel))
set_option maxRecDepth 20000 in
theorem gX3_markDown_X3_storeOf : GoodIn wsX3_markDown (wsV RX3 62 RX3 yX3_storeOf wsX3_storeOf) := goodIn_app (goodIn_of _ (by decide +kernel)) ggX3_markDown_X3_storeOf
set_option maxRecDepth 20000 in
theorem ggX3_markDown_X3_requireStep : GoodIn wsX3_markDown wsX3_requireStep := goodIn_ca (goodIn_r _ [17, 10, 11, 7, 12, 13, 14] (by decide +kernel) (by decide +kernel)) (goodIn_sub (fun _ h => List.mem_cons_of_mem _ (List.mem_append_right _ h)) (by decide +kernel))
set_option maxRecDepth 20000 in
theorem gX3_markDown_X3_requireStep : GoodIn wsX3_markDown (va_wsS RX3 44 yX3_requireStep wsX3_requireStep) := goodIn_app (goodIn_of _ (by decide +kernel)) ggX3_markDown_X3_requireStep
set_option maxRecDepth 20000 in
theorem ggX3_markDown_X3_requireSeasonOn : GoodIn wsX3_markDown wsX3_requireSeasonOn := goodIn_ca (goodIn_r _ [21, 1, 2, 3, 36, 37, 38, 39, 40, 41, 42, 43, 44, 45] (by decide +kernel) (by decide +kernel)) (goodIn_sub (fun _ h => List.mem_cons_of_mem _ (List.mem_append_left _ (List.mem_append_right _ h))) (by decide +kernel))
set_option maxRecDepth 20000 in
theorem gX3_markDown_X3_requireSeasonOn : GoodIn wsX3_markDown (wsV RX3 88 RX3 yX3_requireSeasonOn wsX3_requireSeasonOn) := goodIn_app (goodIn_of _ (by decide +kernel)) ggX3_markDown_X3_requireSeasonOn
set_option maxRecDepth 20000 in
theorem ggX3_markDown_X2_waitFrom : GoodIn wsX3_markDown wsX2_waitFrom := goodIn_r _ [25, 26, 27, 28, 29, 30, 31, 32, 33, 34, 35] (by decide +kernel) (by decide +kernel)
set_option maxRecDepth 20000 in
theorem gX3_markDown_X2_waitFrom_n96 : GoodIn wsX3_markDown (wsX2_waitFrom) := ggX3_markDown_X2_waitFrom
set_option maxRecDepth 20000 in
theorem ggX3_move_X3_storeOf : GoodIn wsX3_move wsX3_storeOf := goodIn_ca (goodIn_r _ [10, 11, 12, 13, 9, 14, 1, 2, 35, 36, 37] (by decide +kernel) (by decide +kernel)) (goodIn_sub (fun _ h => List.mem_cons_of_mem _ (List.mem_append_left _ (List.mem_append_right _ h))) (by decide +kernel))
set_option maxRecDepth 20000 in
theorem gX3_move_X3_storeOf : GoodIn wsX3_move (wsV RX3 62 RX3 yX3_storeOf wsX3_storeOf) := goodIn_app (goodIn_of _ (by decide +kernel)) ggX3_move_X3_storeOf
set_option maxRecDepth 20000 in
theorem ggX3_move_X3_requireSize : GoodIn wsX3_move wsX3_requireSize := goodIn_ca (goodIn_r _ [17, 12, 13, 9, 14, 1, 2] (by decide +kernel) (by decide +kernel)) (goodIn_sub (fun _ h => List.mem_cons_of_mem _ (List.mem_append_left _ (List.mem_append_right _ h))) (by decide +kernel))
set_option maxRecDepth 20000 in
theorem gX3_move_X3_requireSize : GoodIn wsX3_move (va_wsS RX3 78 yX3_requireSize wsX3_requireSize) := goodIn_app (goodIn_of _ (by decide +kernel)) ggX3_move_X3_requireSize
set_option maxRecDepth 20000 in
theorem ggX3_move_X3_requireWithin : GoodIn wsX3_move wsX3_requireWithin := goodIn_ca (goodIn_r _ [14, 1, 2] (by decide +kernel) (by decide +kernel)) (goodIn_sub (fun _ h => List.mem_cons_of_mem _ (List.mem_append_left _ (List.mem_append_right _ h))) (by decide +kernel))
set_option maxRecDepth 20000 in
theorem gX3_move_X3_requireWithin : GoodIn wsX3_move (va_wsS RX3 30 yX3_requireWithin wsX3_requireWithin) := goodIn_app (goodIn_of _ (by decide +kernel)) ggX3_move_X3_requireWithin
set_option maxRecDepth 20000 in
theorem ggX3_move_X3_requireSeasonOn : GoodIn wsX3_move wsX3_requireSeasonOn := goodIn_ca (goodIn_r _ [21, 3, 4, 5, 35, 36, 37, 38, 39, 40, 41, 42, 43, 44] (by decide +kernel) (by decide +kernel)) (goodIn_sub (fun _ h => List.mem_cons_of_mem _ (List.mem_append_right _ h)) (by decide +kernel))
set_option maxRecDepth 20000 in
theorem gX3_move_X3_requireSeasonOn : GoodIn wsX3_move (wsV RX3 88 RX3 yX3_requireSeasonOn wsX3_requireSeasonOn) := goodIn_app (goodIn_of _ (by decide +kernel)) ggX3_move_X3_requireSeasonOn
set_option maxRecDepth 20000 in
theorem ggX3_move_X3_requireRoomFor : GoodIn wsX3_move wsX3_requireRoomFor := goodIn_ca (goodIn_r _ [24, 3, 4, 25, 26, 27, 28, 29, 30, 31, 32, 33, 34] (by decide +kernel) (by decide +kernel)) (goodIn_sub (fun _ h => List.mem_cons_of_mem _ (List.mem_append_right _ h)) (by decide +kernel))
set_option maxRecDepth 20000 in
theorem gX3_move_X3_requireRoomFor : GoodIn wsX3_move (va_wsS RX3 81 yX3_requireRoomFor wsX3_requireRoomFor) := goodIn_app (goodIn_of _ (by decide +kernel)) ggX3_move_X3_requireRoomFor
set_option maxRecDepth 20000 in
theorem ggX3_run_X3_requireSeasonOn : GoodIn wsX3_run wsX3_requireSeasonOn := goodIn_ca (goodIn_r _ [7, 8, 9, 2, 38, 39, 40, 41, 42, 43, 44, 45, 46, 47] (by decide +kernel) (by decide +kernel)) (goodIn_sub (fun _ h => List.mem_cons_of_mem _ (List.mem_append_right _ h)) (by decide +kernel))
set_option maxRecDepth 20000 in
theorem gX3_run_X3_requireSeasonOn : GoodIn wsX3_run (wsV RX3 88 RX3 yX3_requireSeasonOn wsX3_requireSeasonOn) := goodIn_app (goodIn_of _ (by decide +kernel)) ggX3_run_X3_requireSeasonOn
set_option maxRecDepth 20000 in
theorem ggX3_run_X2_sellForAWeek : GoodIn wsX3_run wsX2_sellForAWeek := goodIn_r _ [13, 14, 15, 16, 17, 18, 19, 11, 20, 21, 22, 23, 24, 25, 26, 27, 28, 29, 30, 31, 32, 33, 34, 35, 36, 37, 48, 49, 50, 51, 52] (by decide +kernel) (by decide +kernel)
set_option maxRecDepth 20000 in
theorem gX3_run_X2_sellForAWeek_n115 : GoodIn wsX3_run (wsX2_sellForAWeek) := ggX3_run_X2_sellForAWeek
set_option maxRecDepth 20000 in
theorem ggX3_stock_X3_storeOf : GoodIn wsX3_stock wsX3_storeOf := goodIn_ca (goodIn_r _ [5, 6, 7, 8, 4, 9, 10, 11, 20, 21, 22] (by decide +kernel) (by decide +kernel)) (goodIn_sub (fun _ h => List.mem_cons_of_mem _ (List.mem_append_right _ h)) (by decide +kernel))
set_option maxRecDepth 20000 in
theorem gX3_stock_X3_storeOf : GoodIn wsX3_stock (wsV RX3 62 RX3 yX3_storeOf wsX3_storeOf) := goodIn_app (goodIn_of _ (by decide +kernel)) ggX3_stock_X3_storeOf
set_option maxRecDepth 20000 in
theorem ggX3_stock_X3_requireSize : GoodIn wsX3_stock wsX3_requireSize := goodIn_ca (goodIn_r _ [14, 7, 8, 4, 9, 10, 11] (by decide +kernel) (by decide +kernel)) (goodIn_sub (fun _ h => List.mem_cons_of_mem _ (List.mem_append_right _ h)) (by decide +kernel))
set_option maxRecDepth 20000 in
theorem gX3_stock_X3_requireSize : GoodIn wsX3_stock (va_wsS RX3 78 yX3_requireSize wsX3_requireSize) := goodIn_app (goodIn_of _ (by decide +kernel)) ggX3_stock_X3_requireSize
set_option maxRecDepth 20000 in
theorem ggX3_step_X3_storeOf : GoodIn wsX3_step wsX3_storeOf := goodIn_ca (goodIn_r _ [5, 6, 7, 8, 4, 9, 10, 11, 17, 18, 19] (by decide +kernel) (by decide +kernel)) (goodIn_sub (fun _ h => List.mem_cons_of_mem _ (List.mem_append_right _ h)) (by decide +kernel))
set_option maxRecDepth 20000 in
theorem gX3_step_X3_storeOf : GoodIn wsX3_step (wsV RX3 62 RX3 yX3_storeOf wsX3_storeOf) := goodIn_app (goodIn_of _ (by decide +kernel)) ggX3_step_X3_storeOf
set_option maxRecDepth 20000 in
theorem ggX3_weeksToWait_X3_storeOf : GoodIn wsX3_weeksToWait wsX3_storeOf := goodIn_ca (goodIn_r _ [6, 7, 8, 9, 5, 10, 11, 12, 22, 23, 24] (by decide +kernel) (by decide +kernel)) (goodIn_sub (fun _ h => List.mem_cons_of_mem _ (List.mem_append_right _ h)) (by decide +kernel))
set_option maxRecDepth 20000 in
theorem gX3_weeksToWait_X3_storeOf : GoodIn wsX3_weeksToWait (wsV RX3 62 RX3 yX3_storeOf wsX3_storeOf) := goodIn_app (goodIn_of _ (by decide +kernel)) ggX3_weeksToWait_X3_storeOf
set_option maxRecDepth 20000 in
theorem ggX3_weeksToWait_X2_waitFrom : GoodIn wsX3_weeksToWait wsX2_waitFrom := goodIn_r _ [16, 17, 18, 19, 20, 21, 32, 33, 34, 35, 36] (by decide +kernel) (by decide +kernel)
set_option maxRecDepth 20000 in
theorem gX3_weeksToWait_X2_waitFrom_n96 : GoodIn wsX3_weeksToWait (wsX2_waitFrom) := ggX3_weeksToWait_X2_waitFrom
set_option maxRecDepth 20000 in
theorem ggX3_sold_X3_storeOf : GoodIn wsX3_sold wsX3_storeOf := goodIn_ca (goodIn_r _ [5, 6, 7, 8, 4, 9, 10, 11, 17, 18, 19] (by decide +kernel) (by decide +kernel)) (goodIn_sub (fun _ h => List.mem_cons_of_mem _ (List.mem_append_right _ h)) (by decide +kernel))
set_option maxRecDepth 20000 in
theorem gX3_sold_X3_storeOf : GoodIn wsX3_sold (wsV RX3 62 RX3 yX3_storeOf wsX3_storeOf) := goodIn_app (goodIn_of _ (by decide +kernel)) ggX3_sold_X3_storeOf
set_option maxRecDepth 20000 in
theorem ggX3_wouldSell_X3_storeOf : GoodIn wsX3_wouldSell wsX3_storeOf := goodIn_ca (goodIn_r _ [5, 6, 7, 8, 4, 9, 10, 11, 33, 34, 35] (by decide +kernel) (by decide +kernel)) (goodIn_sub (fun _ h => List.mem_cons_of_mem _ (List.mem_append_right _ h)) (by decide +kernel))
set_option maxRecDepth 20000 in
theorem gX3_wouldSell_X3_storeOf : GoodIn wsX3_wouldSell (wsV RX3 62 RX3 yX3_storeOf wsX3_storeOf) := goodIn_app (goodIn_of _ (by decide +kernel)) ggX3_wouldSell_X3_storeOf
set_option maxRecDepth 20000 in
theorem ggX3_wouldSell_X3_requireStep : GoodIn wsX3_wouldSell wsX3_requireStep := goodIn_ca (goodIn_r _ [14, 7, 8, 4, 9, 10, 11] (by decide +kernel) (by decide +kernel)) (goodIn_sub (fun _ h => List.mem_cons_of_mem _ (List.mem_append_right _ h)) (by decide +kernel))
set_option maxRecDepth 20000 in
theorem gX3_wouldSell_X3_requireStep : GoodIn wsX3_wouldSell (va_wsS RX3 44 yX3_requireStep wsX3_requireStep) := goodIn_app (goodIn_of _ (by decide +kernel)) ggX3_wouldSell_X3_requireStep
set_option maxRecDepth 20000 in
theorem ggX3_wouldSell_X2_salesAt : GoodIn wsX3_wouldSell wsX2_salesAt := goodIn_r _ [18, 19, 20, 21, 22, 23, 24, 25, 26, 16, 27, 28, 29, 30, 31, 32, 36, 37, 38, 39, 40] (by decide +kernel) (by decide +kernel)
set_option maxRecDepth 20000 in
theorem gX3_wouldSell_X2_salesAt_n122 : GoodIn wsX3_wouldSell (wsX2_salesAt) := ggX3_wouldSell_X2_salesAt
set_option maxRecDepth 20000 in
theorem ggX3_best_X3_storeOf : GoodIn wsX3_best wsX3_storeOf := goodIn_ca (goodIn_r _ [7, 8, 9, 10, 6, 11, 12, 13, 76, 77, 78] (by decide +kernel) (by decide +kernel)) (goodIn_sub (fun _ h => List.mem_cons_of_mem _ (List.mem_append_right _ h)) (by decide +kernel))
set_option maxRecDepth 20000 in
theorem gX3_best_X3_storeOf : GoodIn wsX3_best (wsV RX3 62 RX3 yX3_storeOf wsX3_storeOf) := goodIn_app (goodIn_of _ (by decide +kernel)) ggX3_best_X3_storeOf
set_option maxRecDepth 20000 in
theorem ggX3_best_X0_lookAt : GoodIn wsX3_best wsX0_lookAt := goodIn_r _ [17, 18, 19, 20, 21, 22, 23, 24, 25, 26, 27, 28, 29, 30, 31, 32, 33, 34, 35, 36, 37, 38, 39, 40, 41, 42, 43, 44, 45, 46, 79, 80, 81, 82, 83, 84, 85, 86, 87, 88, 89, 90, 91, 92, 93, 94, 95, 96, 97, 98, 99, 100, 101, 102] (by decide +kernel) (by decide +kernel)
set_option maxRecDepth 20000 in
theorem gX3_best_X0_lookAt_n126 : GoodIn wsX3_best (wsX0_lookAt) := ggX3_best_X0_lookAt
set_option maxRecDepth 20000 in
theorem ggX3_best_X0_greatestWorth : GoodIn wsX3_best wsX0_greatestWorth := goodIn_r _ [49, 24, 33, 32, 34, 50, 51, 52, 15, 53, 54, 25, 55, 56, 57, 58, 59, 60, 61, 62, 63, 41, 30, 42, 64, 65, 66, 67, 26, 68, 69, 70, 71, 28, 29, 31, 23, 18, 72, 73, 74, 75, 27, 86, 87, 88, 89, 90, 91, 92, 93, 94, 95, 96, 97] (by decide +kernel) (by decide +kernel)
set_option maxRecDepth 20000 in
theorem gX3_best_X0_greatestWorth_n130 : GoodIn wsX3_best (wsX0_greatestWorth) := ggX3_best_X0_greatestWorth
set_option maxRecDepth 20000 in
theorem ggX3_bestByAll_X3_storeOf : GoodIn wsX3_bestByAll wsX3_storeOf := goodIn_ca (goodIn_r _ [9, 10, 11, 12, 8, 13, 14, 15, 63, 64, 65] (by decide +kernel) (by decide +kernel)) (goodIn_sub (fun _ h => List.mem_cons_of_mem _ (List.mem_append_right _ h)) (by decide +kernel))
set_option maxRecDepth 20000 in
theorem gX3_bestByAll_X3_storeOf : GoodIn wsX3_bestByAll (wsV RX3 62 RX3 yX3_storeOf wsX3_storeOf) := goodIn_app (goodIn_of _ (by decide +kernel)) ggX3_bestByAll_X3_storeOf
set_option maxRecDepth 20000 in
theorem ggX3_bestByAll_X0_lookAt : GoodIn wsX3_bestByAll wsX0_lookAt := goodIn_r _ [19, 20, 21, 22, 23, 24, 25, 26, 27, 28, 29, 30, 31, 32, 33, 34, 35, 36, 37, 38, 39, 40, 41, 42, 43, 44, 45, 46, 47, 48, 66, 67, 68, 69, 70, 71, 72, 73, 74, 75, 76, 77, 78, 79, 80, 81, 82, 83, 84, 85, 86, 87, 88, 89] (by decide +kernel) (by decide +kernel)
set_option maxRecDepth 20000 in
theorem gX3_bestByAll_X0_lookAt_n126 : GoodIn wsX3_bestByAll (wsX0_lookAt) := ggX3_bestByAll_X0_lookAt
set_option maxRecDepth 20000 in
theorem ggX3_bestByAll_X0_greatestWorthByAll : GoodIn wsX3_bestByAll wsX0_greatestWorthByAll := goodIn_r _ [51, 27, 26, 30, 31, 32, 33, 52, 35, 53, 54, 43, 44, 55, 56, 57, 17, 58, 36, 34, 28, 25, 20, 29, 59, 60, 61, 62, 73, 74, 75, 76, 77, 78, 79, 80, 81, 82, 83, 84] (by decide +kernel) (by decide +kernel)
set_option maxRecDepth 20000 in
theorem gX3_bestByAll_X0_greatestWorthByAll_n138 : GoodIn wsX3_bestByAll (wsX0_greatestWorthByAll) := ggX3_bestByAll_X0_greatestWorthByAll
set_option maxRecDepth 20000 in
theorem ggX3_planned_X3_storeOf : GoodIn wsX3_planned wsX3_storeOf := goodIn_ca (goodIn_r _ [7, 8, 9, 10, 6, 11, 12, 13, 80, 81, 82] (by decide +kernel) (by decide +kernel)) (goodIn_sub (fun _ h => List.mem_cons_of_mem _ (List.mem_append_right _ h)) (by decide +kernel))
set_option maxRecDepth 20000 in
theorem gX3_planned_X3_storeOf : GoodIn wsX3_planned (wsV RX3 62 RX3 yX3_storeOf wsX3_storeOf) := goodIn_app (goodIn_of _ (by decide +kernel)) ggX3_planned_X3_storeOf
set_option maxRecDepth 20000 in
theorem ggX3_planned_X3_requireWithin : GoodIn wsX3_planned wsX3_requireWithin := goodIn_ca (goodIn_r _ [11, 12, 13] (by decide +kernel) (by decide +kernel)) (goodIn_sub (fun _ h => List.mem_cons_of_mem _ (List.mem_append_right _ h)) (by decide +kernel))
set_option maxRecDepth 20000 in
theorem gX3_planned_X3_requireWithin : GoodIn wsX3_planned (va_wsS RX3 30 yX3_requireWithin wsX3_requireWithin) := goodIn_app (goodIn_of _ (by decide +kernel)) ggX3_planned_X3_requireWithin
set_option maxRecDepth 20000 in
theorem ggX3_planned_X0_lookAt : GoodIn wsX3_planned wsX0_lookAt := goodIn_r _ [17, 18, 19, 20, 21, 22, 23, 24, 25, 26, 27, 28, 29, 30, 31, 32, 33, 34, 35, 36, 37, 38, 39, 40, 41, 42, 43, 44, 45, 46, 83, 84, 85, 86, 87, 88, 89, 90, 91, 92, 93, 94, 95, 96, 97, 98, 99, 100, 101, 102, 103, 104, 105, 106] (by decide +kernel) (by decide +kernel)
set_option maxRecDepth 20000 in
theorem gX3_planned_X0_lookAt_n126 : GoodIn wsX3_planned (wsX0_lookAt) := ggX3_planned_X0_lookAt
set_option maxRecDepth 20000 in
theorem ggX3_planned_X0_bestStepIn : GoodIn wsX3_planned wsX0_bestStepIn := goodIn_r _ [49, 33, 34, 32, 24, 26, 23, 28, 29, 30, 31, 50, 51, 52, 15, 53, 54, 25, 55, 56, 57, 58, 59, 60, 61, 62, 63, 41, 42, 64, 65, 66, 67, 68, 69, 70, 71, 18, 72, 73, 74, 75, 27, 76, 77, 78, 79, 90, 91, 92, 93, 94, 95, 96, 97, 98, 99, 100, 101] (by decide +kernel) (by decide +kernel)
set_option maxRecDepth 20000 in
theorem gX3_planned_X0_bestStepIn_n141 : GoodIn wsX3_planned (wsX0_bestStepIn) := ggX3_planned_X0_bestStepIn
set_option maxRecDepth 20000 in
theorem ggX3_bestLeaving_X3_storeOf : GoodIn wsX3_bestLeaving wsX3_storeOf := goodIn_ca (goodIn_r _ [7, 8, 9, 10, 6, 11, 12, 13, 76, 77, 78] (by decide +kernel) (by decide +kernel)) (goodIn_sub (fun _ h => List.mem_cons_of_mem _ (List.mem_append_right _ h)) (by decide +kernel))
set_option maxRecDepth 20000 in
theorem gX3_bestLeaving_X3_storeOf : GoodIn wsX3_bestLeaving (wsV RX3 62 RX3 yX3_storeOf wsX3_storeOf) := goodIn_app (goodIn_of _ (by decide +kernel)) ggX3_bestLeaving_X3_storeOf
set_option maxRecDepth 20000 in
theorem ggX3_bestLeaving_X3_requireWithin : GoodIn wsX3_bestLeaving wsX3_requireWithin := goodIn_ca (goodIn_r _ [11, 12, 13] (by decide +kernel) (by decide +kernel)) (goodIn_sub (fun _ h => List.mem_cons_of_mem _ (List.mem_append_right _ h)) (by decide +kernel))
set_option maxRecDepth 20000 in
theorem gX3_bestLeaving_X3_requireWithin : GoodIn wsX3_bestLeaving (va_wsS RX3 30 yX3_requireWithin wsX3_requireWithin) := goodIn_app (goodIn_of _ (by decide +kernel)) ggX3_bestLeaving_X3_requireWithin
set_option maxRecDepth 20000 in
theorem ggX3_bestLeaving_X0_lookAt : GoodIn wsX3_bestLeaving wsX0_lookAt := goodIn_r _ [17, 18, 19, 20, 21, 22, 23, 24, 25, 26, 27, 28, 29, 30, 31, 32, 33, 34, 35, 36, 37, 38, 39, 40, 41, 42, 43, 44, 45, 46, 79, 80, 81, 82, 83, 84, 85, 86, 87, 88, 89, 90, 91, 92, 93, 94, 95, 96, 97, 98, 99, 100, 101, 102] (by decide +kernel) (by decide +kernel)
set_option maxRecDepth 20000 in
theorem gX3_bestLeaving_X0_lookAt_n126 : GoodIn wsX3_bestLeaving (wsX0_lookAt) := ggX3_bestLeaving_X0_lookAt
set_option maxRecDepth 20000 in
theorem ggX3_bestLeaving_X0_greatestWorth : GoodIn wsX3_bestLeaving wsX0_greatestWorth := goodIn_r _ [49, 24, 33, 32, 34, 50, 51, 52, 15, 53, 54, 25, 55, 56, 57, 58, 59, 60, 61, 62, 63, 41, 30, 42, 64, 65, 66, 67, 26, 68, 69, 70, 71, 28, 29, 31, 23, 18, 72, 73, 74, 75, 27, 86, 87, 88, 89, 90, 91, 92, 93, 94, 95, 96, 97] (by decide +kernel) (by decide +kernel)
set_option maxRecDepth 20000 in
theorem gX3_bestLeaving_X0_greatestWorth_n130 : GoodIn wsX3_bestLeaving (wsX0_greatestWorth) := ggX3_bestLeaving_X0_greatestWorth
set_option maxRecDepth 20000 in
theorem ggX3_requireStep_X3_requireWithin : GoodIn wsX3_requireStep wsX3_requireWithin := goodIn_ca (goodIn_r _ [4, 5, 6] (by decide +kernel) (by decide +kernel)) (goodIn_sub (fun _ h => List.mem_cons_of_mem _ (List.mem_append_right _ h)) (by decide +kernel))
set_option maxRecDepth 20000 in
theorem gX3_requireStep_X3_requireWithin : GoodIn wsX3_requireStep (va_wsS RX3 30 yX3_requireWithin wsX3_requireWithin) := goodIn_app (goodIn_of _ (by decide +kernel)) ggX3_requireStep_X3_requireWithin
set_option maxRecDepth 20000 in
theorem ggX3_requireSize_X3_requireWithin : GoodIn wsX3_requireSize wsX3_requireWithin := goodIn_ca (goodIn_r _ [4, 5, 6] (by decide +kernel) (by decide +kernel)) (goodIn_sub (fun _ h => List.mem_cons_of_mem _ (List.mem_append_right _ h)) (by decide +kernel))
set_option maxRecDepth 20000 in
theorem gX3_requireSize_X3_requireWithin : GoodIn wsX3_requireSize (va_wsS RX3 30 yX3_requireWithin wsX3_requireWithin) := goodIn_app (goodIn_of _ (by decide +kernel)) ggX3_requireSize_X3_requireWithin
set_option maxRecDepth 20000 in
theorem ggX3_requireRoomFor_X2_wholeStock : GoodIn wsX3_requireRoomFor wsX2_wholeStock := goodIn_r _ [6, 7, 8, 9, 10, 11, 12] (by decide +kernel) (by decide +kernel)
set_option maxRecDepth 20000 in
theorem gX3_requireRoomFor_X2_wholeStock_n146 : GoodIn wsX3_requireRoomFor (wsX2_wholeStock) := ggX3_requireRoomFor_X2_wholeStock
set_option maxRecDepth 20000 in
theorem ggX3_storeOf_X3_requireWithin : GoodIn wsX3_storeOf wsX3_requireWithin := goodIn_ca (goodIn_r _ [5, 6, 7] (by decide +kernel) (by decide +kernel)) (goodIn_sub (fun _ h => List.mem_cons_of_mem _ (List.mem_append_right _ h)) (by decide +kernel))
set_option maxRecDepth 20000 in
theorem gX3_storeOf_X3_requireWithin : GoodIn wsX3_storeOf (va_wsS RX3 30 yX3_requireWithin wsX3_requireWithin) := goodIn_app (goodIn_of _ (by decide +kernel)) ggX3_storeOf_X3_requireWithin
set_option maxRecDepth 20000 in
theorem ggX4_isStore_X4_in : GoodIn wsX4_isStore wsX4_in := goodIn_r _ [4] (by decide +kernel) (by decide +kernel)
set_option maxRecDepth 20000 in
theorem gX4_isStore_X4_in : GoodIn wsX4_isStore (va_wsS RX4 41 yX4_in wsX4_in) := goodIn_app (goodIn_of _ (by decide +kernel)) ggX4_isStore_X4_in
set_option maxRecDepth 20000 in
theorem ggX4_isSize_X4_in : GoodIn wsX4_isSize wsX4_in := goodIn_r _ [4] (by decide +kernel) (by decide +kernel)
set_option maxRecDepth 20000 in
theorem gX4_isSize_X4_in : GoodIn wsX4_isSize (va_wsS RX4 41 yX4_in wsX4_in) := goodIn_app (goodIn_of _ (by decide +kernel)) ggX4_isSize_X4_in
set_option maxRecDepth 20000 in
theorem ggX4_isStep_X4_in : GoodIn wsX4_isStep wsX4_in := goodIn_r _ [4] (by decide +kernel) (by decide +kernel)
set_option maxRecDepth 20000 in
theorem gX4_isStep_X4_in : GoodIn wsX4_isStep (va_wsS RX4 41 yX4_in wsX4_in) := goodIn_app (goodIn_of _ (by decide +kernel)) ggX4_isStep_X4_in
set_option maxRecDepth 20000 in
theorem ggX4_begin_X4_in : GoodIn wsX4_begin wsX4_in := goodIn_r _ [10] (by decide +kernel) (by decide +kernel)
set_option maxRecDepth 20000 in
theorem gX4_begin_X4_in : GoodIn wsX4_begin (va_wsS RX4 41 yX4_in wsX4_in) := goodIn_app (goodIn_of _ (by decide +kernel)) ggX4_begin_X4_in
set_option maxRecDepth 20000 in
theorem ggX4_begin_X4_asked : GoodIn wsX4_begin wsX4_asked := goodIn_r _ [14, 15, 16, 17, 18, 19, 20, 21, 22, 23, 24, 25, 26, 27, 28, 29] (by decide +kernel) (by decide +kernel)
set_option maxRecDepth 20000 in
theorem gX4_begin_X4_asked : GoodIn wsX4_begin (wsV RX4 45 RX4 yX4_asked wsX4_asked) := goodIn_app (goodIn_of _ (by decide +kernel)) ggX4_begin_X4_asked
set_option maxRecDepth 20000 in
theorem ggX4_setPrice_X4_isStep : GoodIn wsX4_setPrice wsX4_isStep := goodIn_r _ [5, 6, 7, 4, 8] (by decide +kernel) (by decide +kernel)
set_option maxRecDepth 20000 in
theorem gX4_setPrice_X4_isStep : GoodIn wsX4_setPrice (va_wsS RX4 55 yX4_isStep wsX4_isStep) := goodIn_app (goodIn_of _ (by decide +kernel)) ggX4_setPrice_X4_isStep
set_option maxRecDepth 20000 in
theorem ggX4_setPrice_X4_in : GoodIn wsX4_setPrice wsX4_in := goodIn_r _ [8] (by decide +kernel) (by decide +kernel)
set_option maxRecDepth 20000 in
theorem gX4_setPrice_X4_in : GoodIn wsX4_setPrice (va_wsS RX4 41 yX4_in wsX4_in) := goodIn_app (goodIn_of _ (by decide +kernel)) ggX4_setPrice_X4_in
set_option maxRecDepth 20000 in
theorem ggX4_setPrice_X4_asked_ : GoodIn wsX4_setPrice wsX4_asked_ := goodIn_r _ [12, 13, 14, 15, 16, 17, 18, 19, 20, 21, 22, 23, 24, 25, 26, 27] (by decide +kernel) (by decide +kernel)
set_option maxRecDepth 20000 in
theorem gX4_setPrice_X4_asked_ : GoodIn wsX4_setPrice (wsV RX4 59 RX4 yX4_asked_ wsX4_asked_) := goodIn_app (goodIn_of _ (by decide +kernel)) ggX4_setPrice_X4_asked_
set_option maxRecDepth 20000 in
theorem ggX4_setDemand_X4_isStore : GoodIn wsX4_setDemand wsX4_isStore := goodIn_r _ [5, 6, 7, 4, 8] (by decide +kernel) (by decide +kernel)
set_option maxRecDepth 20000 in
theorem gX4_setDemand_X4_isStore : GoodIn wsX4_setDemand (va_wsS RX4 62 yX4_isStore wsX4_isStore) := goodIn_app (goodIn_of _ (by decide +kernel)) ggX4_setDemand_X4_isStore
set_option maxRecDepth 20000 in
theorem ggX4_setDemand_X4_isStep : GoodIn wsX4_setDemand wsX4_isStep := goodIn_r _ [11, 6, 7, 4, 8] (by decide +kernel) (by decide +kernel)
set_option maxRecDepth 20000 in
theorem gX4_setDemand_X4_isStep : GoodIn wsX4_setDemand (va_wsS RX4 55 yX4_isStep wsX4_isStep) := goodIn_app (goodIn_of _ (by decide +kernel)) ggX4_setDemand_X4_isStep
set_option maxRecDepth 20000 in
theorem ggX4_setDemand_X4_in : GoodIn wsX4_setDemand wsX4_in := goodIn_r _ [8] (by decide +kernel) (by decide +kernel)
set_option maxRecDepth 20000 in
theorem gX4_setDemand_X4_in : GoodIn wsX4_setDemand (va_wsS RX4 41 yX4_in wsX4_in) := goodIn_app (goodIn_of _ (by decide +kernel)) ggX4_setDemand_X4_in
set_option maxRecDepth 20000 in
theorem ggX4_setDemand_X4_asked : GoodIn wsX4_setDemand wsX4_asked := goodIn_r _ [15, 16, 17, 18, 19, 20, 21, 22, 23, 24, 25, 26, 27, 28, 29, 30] (by decide +kernel) (by decide +kernel)
set_option maxRecDepth 20000 in
theorem gX4_setDemand_X4_asked : GoodIn wsX4_setDemand (wsV RX4 45 RX4 yX4_asked wsX4_asked) := goodIn_app (goodIn_of _ (by decide +kernel)) ggX4_setDemand_X4_asked
set_option maxRecDepth 20000 in
theorem ggX4_setRules_X4_in : GoodIn wsX4_setRules wsX4_in := goodIn_r _ [7] (by decide +kernel) (by decide +kernel)
set_option maxRecDepth 20000 in
theorem gX4_setRules_X4_in : GoodIn wsX4_setRules (va_wsS RX4 41 yX4_in wsX4_in) := goodIn_app (goodIn_of _ (by decide +kernel)) ggX4_setRules_X4_in
set_option maxRecDepth 20000 in
theorem ggX4_setRules_X4_asked : GoodIn wsX4_setRules wsX4_asked := goodIn_r _ [11, 12, 13, 14, 15, 16, 17, 18, 19, 20, 21, 22, 23, 24, 25, 26] (by decide +kernel) (by decide +kernel)
set_option maxRecDepth 20000 in
theorem gX4_setRules_X4_asked : GoodIn wsX4_setRules (wsV RX4 45 RX4 yX4_asked wsX4_asked) := goodIn_app (goodIn_of _ (by decide +kernel)) ggX4_setRules_X4_asked
set_option maxRecDepth 20000 in
theorem ggX4_put_X4_isStore : GoodIn wsX4_put wsX4_isStore := goodIn_r _ [5, 6, 7, 4, 8] (by decide +kernel) (by decide +kernel)
set_option maxRecDepth 20000 in
theorem gX4_put_X4_isStore : GoodIn wsX4_put (va_wsS RX4 62 yX4_isStore wsX4_isStore) := goodIn_app (goodIn_of _ (by decide +kernel)) ggX4_put_X4_isStore
set_option maxRecDepth 20000 in
theorem ggX4_put_X4_isSize : GoodIn wsX4_put wsX4_isSize := goodIn_r _ [11, 6, 7, 4, 8] (by decide +kernel) (by decide +kernel)
set_option maxRecDepth 20000 in
theorem gX4_put_X4_isSize : GoodIn wsX4_put (va_wsS RX4 71 yX4_isSize wsX4_isSize) := goodIn_app (goodIn_of _ (by decide +kernel)) ggX4_put_X4_isSize
set_option maxRecDepth 20000 in
theorem ggX4_put_X4_in : GoodIn wsX4_put wsX4_in := goodIn_r _ [8] (by decide +kernel) (by decide +kernel)
set_option maxRecDepth 20000 in
theorem gX4_put_X4_in : GoodIn wsX4_put (va_wsS RX4 41 yX4_in wsX4_in) := goodIn_app (goodIn_of _ (by decide +kernel)) ggX4_put_X4_in
set_option maxRecDepth 20000 in
theorem ggX4_put_X4_whole : GoodIn wsX4_put wsX4_whole := goodIn_r _ [15, 1, 21, 22, 23, 24, 25, 26, 27, 28, 29, 30, 31, 32, 33, 34] (by decide +kernel) (by decide +kernel)
set_option maxRecDepth 20000 in
theorem gX4_put_X4_whole : GoodIn wsX4_put (wsV RX4 74 RX4 yX4_whole wsX4_whole) := goodIn_app (goodIn_of _ (by decide +kernel)) ggX4_put_X4_whole
set_option maxRecDepth 20000 in
theorem ggX4_put_X4_asked_ : GoodIn wsX4_put wsX4_asked_ := goodIn_r _ [19, 20, 21, 22, 23, 24, 25, 26, 27, 28, 29, 30, 31, 32, 33, 34] (by decide +kernel) (by decide +kernel)
set_option maxRecDepth 20000 in
theorem gX4_put_X4_asked_ : GoodIn wsX4_put (wsV RX4 59 RX4 yX4_asked_ wsX4_asked_) := goodIn_app (goodIn_of _ (by decide +kernel)) ggX4_put_X4_asked_
set_option maxRecDepth 20000 in
theorem ggX4_markDown_X4_isStore : GoodIn wsX4_markDown wsX4_isStore := goodIn_r _ [9, 10, 11, 8, 12] (by decide +kernel) (by decide +kernel)
set_option maxRecDepth 20000 in
theorem gX4_markDown_X4_isStore : GoodIn wsX4_markDown (va_wsS RX4 62 yX4_isStore wsX4_isStore) := goodIn_app (goodIn_of _ (by decide +kernel)) ggX4_markDown_X4_isStore
set_option maxRecDepth 20000 in
theorem ggX4_markDown_X4_isStep : GoodIn wsX4_markDown wsX4_isStep := goodIn_r _ [15, 10, 11, 8, 12] (by decide +kernel) (by decide +kernel)
set_option maxRecDepth 20000 in
theorem gX4_markDown_X4_isStep : GoodIn wsX4_markDown (va_wsS RX4 55 yX4_isStep wsX4_isStep) := goodIn_app (goodIn_of _ (by decide +kernel)) ggX4_markDown_X4_isStep
set_option maxRecDepth 20000 in
theorem ggX4_markDown_X4_waits : GoodIn wsX4_markDown wsX4_waits := goodIn_r _ [19, 4, 20, 1, 26, 27, 28, 29, 30, 31, 32, 33, 34, 35, 36, 37, 38, 39] (by decide +kernel) (by decide +kernel)
set_option maxRecDepth 20000 in
theorem gX4_markDown_X4_waits : GoodIn wsX4_markDown (wsV RX4 78 RX4 yX4_waits wsX4_waits) := goodIn_app (goodIn_of _ (by decide +kernel)) ggX4_markDown_X4_waits
set_option maxRecDepth 20000 in
theorem ggX4_markDown_X4_asked_ : GoodIn wsX4_markDown wsX4_asked_ := goodIn_r _ [24, 25, 26, 27, 28, 29, 30, 31, 32, 33, 34, 35, 36, 37, 38, 39] (by decide +kernel) (by decide +kernel)
set_option maxRecDepth 20000 in
theorem gX4_markDown_X4_asked_ : GoodIn wsX4_markDown (wsV RX4 59 RX4 yX4_asked_ wsX4_asked_) := goodIn_app (goodIn_of _ (by decide +kernel)) ggX4_markDown_X4_asked_
set_option maxRecDepth 20000 in
theorem ggX4_move_X4_isStore : GoodIn wsX4_move wsX4_isStore := goodIn_r _ [9, 10, 11, 8, 12] (by decide +kernel) (by decide +kernel)
set_option maxRecDepth 20000 in
theorem gX4_move_X4_isStore : GoodIn wsX4_move (va_wsS RX4 62 yX4_isStore wsX4_isStore) := goodIn_app (goodIn_of _ (by decide +kernel)) ggX4_move_X4_isStore
set_option maxRecDepth 20000 in
theorem ggX4_move_X4_isSize : GoodIn wsX4_move wsX4_isSize := goodIn_r _ [15, 10, 11, 8, 12] (by decide +kernel) (by decide +kernel)
set_option maxRecDepth 20000 in
theorem gX4_move_X4_isSize : GoodIn wsX4_move (va_wsS RX4 71 yX4_isSize wsX4_isSize) := goodIn_app (goodIn_of _ (by decide +kernel)) ggX4_move_X4_isSize
set_option maxRecDepth 20000 in
theorem ggX4_move_X4_in : GoodIn wsX4_move wsX4_in := goodIn_r _ [12] (by decide +kernel) (by decide +kernel)
set_option maxRecDepth 20000 in
theorem gX4_move_X4_in : GoodIn wsX4_move (va_wsS RX4 41 yX4_in wsX4_in) := goodIn_app (goodIn_of _ (by decide +kernel)) ggX4_move_X4_in
set_option maxRecDepth 20000 in
theorem ggX4_move_X4_whole : GoodIn wsX4_move wsX4_whole := goodIn_r _ [19, 3, 25, 26, 27, 28, 29, 30, 31, 32, 33, 34, 35, 36, 37, 38] (by decide +kernel) (by decide +kernel)
set_option maxRecDepth 20000 in
theorem gX4_move_X4_whole : GoodIn wsX4_move (wsV RX4 74 RX4 yX4_whole wsX4_whole) := goodIn_app (goodIn_of _ (by decide +kernel)) ggX4_move_X4_whole
set_option maxRecDepth 20000 in
theorem ggX4_move_X4_asked_ : GoodIn wsX4_move wsX4_asked_ := goodIn_r _ [23, 24, 25, 26, 27, 28, 29, 30, 31, 32, 33, 34, 35, 36, 37, 38] (by decide +kernel) (by decide +kernel)
set_option maxRecDepth 20000 in
theorem gX4_move_X4_asked_ : GoodIn wsX4_move (wsV RX4 59 RX4 yX4_asked_ wsX4_asked_) := goodIn_app (goodIn_of _ (by decide +kernel)) ggX4_move_X4_asked_
set_option maxRecDepth 20000 in
theorem ggX4_sells_X4_whole : GoodIn wsX4_sells wsX4_whole := goodIn_r _ [7, 1, 8, 9, 10, 11, 12, 13, 14, 15, 16, 17, 18, 19, 20, 21] (by decide +kernel) (by decide +kernel)
set_option maxRecDepth 20000 in
theorem gX4_sells_X4_whole : GoodIn wsX4_sells (wsV RX4 74 RX4 yX4_whole wsX4_whole) := goodIn_app (goodIn_of _ (by decide +kernel)) ggX4_sells_X4_whole
set_option maxRecDepth 20000 in
theorem ggX4_run_X4_asked : GoodIn wsX4_run wsX4_asked := goodIn_r _ [12, 13, 23, 24, 25, 26, 27, 28, 29, 30, 31, 32, 33, 34, 35, 36] (by decide +kernel) (by decide +kernel)
set_option maxRecDepth 20000 in
theorem gX4_run_X4_asked : GoodIn wsX4_run (wsV RX4 45 RX4 yX4_asked wsX4_asked) := goodIn_app (goodIn_of _ (by decide +kernel)) ggX4_run_X4_asked
set_option maxRecDepth 20000 in
theorem ggX4_run_X4_sells : GoodIn wsX4_run wsX4_sells := goodIn_r _ [17, 4, 18, 19, 20, 21, 11, 22, 23, 24, 25, 26, 27, 28, 29, 30, 31, 32, 33, 34, 35, 36] (by decide +kernel) (by decide +kernel)
set_option maxRecDepth 20000 in
theorem gX4_run_X4_sells : GoodIn wsX4_run (wsV RX4 81 RX4 yX4_sells wsX4_sells) := goodIn_app (goodIn_of _ (by decide +kernel)) ggX4_run_X4_sells
set_option maxRecDepth 20000 in
theorem ggX4_week_X4_told : GoodIn wsX4_week wsX4_told := goodIn_r _ [6, 7, 8, 9, 10, 11, 12, 13, 14, 15, 16, 17, 18, 19, 20, 21] (by decide +kernel) (by decide +kernel)
set_option maxRecDepth 20000 in
theorem gX4_week_X4_told : GoodIn wsX4_week (wsV RX4 85 RX4 yX4_told wsX4_told) := goodIn_app (goodIn_of _ (by decide +kernel)) ggX4_week_X4_told
set_option maxRecDepth 20000 in
theorem ggX4_stock_X4_isStore : GoodIn wsX4_stock wsX4_isStore := goodIn_r _ [5, 6, 7, 4, 8] (by decide +kernel) (by decide +kernel)
set_option maxRecDepth 20000 in
theorem gX4_stock_X4_isStore : GoodIn wsX4_stock (va_wsS RX4 62 yX4_isStore wsX4_isStore) := goodIn_app (goodIn_of _ (by decide +kernel)) ggX4_stock_X4_isStore
set_option maxRecDepth 20000 in
theorem ggX4_stock_X4_isSize : GoodIn wsX4_stock wsX4_isSize := goodIn_r _ [11, 6, 7, 4, 8] (by decide +kernel) (by decide +kernel)
set_option maxRecDepth 20000 in
theorem gX4_stock_X4_isSize : GoodIn wsX4_stock (va_wsS RX4 71 yX4_isSize wsX4_isSize) := goodIn_app (goodIn_of _ (by decide +kernel)) ggX4_stock_X4_isSize
set_option maxRecDepth 20000 in
theorem ggX4_stock_X4_asked : GoodIn wsX4_stock wsX4_asked := goodIn_r _ [15, 16, 17, 18, 19, 20, 21, 22, 23, 24, 25, 26, 27, 28, 29, 30] (by decide +kernel) (by decide +kernel)
set_option maxRecDepth 20000 in
theorem gX4_stock_X4_asked : GoodIn wsX4_stock (wsV RX4 45 RX4 yX4_asked wsX4_asked) := goodIn_app (goodIn_of _ (by decide +kernel)) ggX4_stock_X4_asked
set_option maxRecDepth 20000 in
theorem ggX4_step_X4_isStore : GoodIn wsX4_step wsX4_isStore := goodIn_r _ [5, 6, 7, 4, 8] (by decide +kernel) (by decide +kernel)
set_option maxRecDepth 20000 in
theorem gX4_step_X4_isStore : GoodIn wsX4_step (va_wsS RX4 62 yX4_isStore wsX4_isStore) := goodIn_app (goodIn_of _ (by decide +kernel)) ggX4_step_X4_isStore
set_option maxRecDepth 20000 in
theorem ggX4_step_X4_asked : GoodIn wsX4_step wsX4_asked := goodIn_r _ [12, 13, 14, 15, 16, 17, 18, 19, 20, 21, 22, 23, 24, 25, 26, 27] (by decide +kernel) (by decide +kernel)
set_option maxRecDepth 20000 in
theorem gX4_step_X4_asked : GoodIn wsX4_step (wsV RX4 45 RX4 yX4_asked wsX4_asked) := goodIn_app (goodIn_of _ (by decide +kernel)) ggX4_step_X4_asked
set_option maxRecDepth 20000 in
theorem ggX4_weeksToWait_X4_isStore : GoodIn wsX4_weeksToWait wsX4_isStore := goodIn_r _ [4, 5, 6, 3, 7] (by decide +kernel) (by decide +kernel)
set_option maxRecDepth 20000 in
theorem gX4_weeksToWait_X4_isStore : GoodIn wsX4_weeksToWait (va_wsS RX4 62 yX4_isStore wsX4_isStore) := goodIn_app (goodIn_of _ (by decide +kernel)) ggX4_weeksToWait_X4_isStore
set_option maxRecDepth 20000 in
theorem ggX4_weeksToWait_X4_asked : GoodIn wsX4_weeksToWait wsX4_asked := goodIn_r _ [11, 12, 20, 21, 22, 23, 24, 25, 26, 27, 28, 29, 30, 31, 32, 33] (by decide +kernel) (by decide +kernel)
set_option maxRecDepth 20000 in
theorem gX4_weeksToWait_X4_asked : GoodIn wsX4_weeksToWait (wsV RX4 45 RX4 yX4_asked wsX4_asked) := goodIn_app (goodIn_of _ (by decide +kernel)) ggX4_weeksToWait_X4_asked
set_option maxRecDepth 20000 in
theorem ggX4_weeksToWait_X4_waits : GoodIn wsX4_weeksToWait wsX4_waits := goodIn_r _ [16, 17, 18, 19, 20, 21, 22, 23, 24, 25, 26, 27, 28, 29, 30, 31, 32, 33] (by decide +kernel) (by decide +kernel)
set_option maxRecDepth 20000 in
theorem gX4_weeksToWait_X4_waits : GoodIn wsX4_weeksToWait (wsV RX4 78 RX4 yX4_waits wsX4_waits) := goodIn_app (goodIn_of _ (by decide +kernel)) ggX4_weeksToWait_X4_waits
set_option maxRecDepth 20000 in
theorem ggX4_sold_X4_isStore : GoodIn wsX4_sold wsX4_isStore := goodIn_r _ [5, 6, 7, 4, 8] (by decide +kernel) (by decide +kernel)
set_option maxRecDepth 20000 in
theorem gX4_sold_X4_isStore : GoodIn wsX4_sold (va_wsS RX4 62 yX4_isStore wsX4_isStore) := goodIn_app (goodIn_of _ (by decide +kernel)) ggX4_sold_X4_isStore
set_option maxRecDepth 20000 in
theorem ggX4_sold_X4_asked : GoodIn wsX4_sold wsX4_asked := goodIn_r _ [12, 13, 14, 15, 16, 17, 18, 19, 20, 21, 22, 23, 24, 25, 26, 27] (by decide +kernel) (by decide +kernel)
set_option maxRecDepth 20000 in
theorem gX4_sold_X4_asked : GoodIn wsX4_sold (wsV RX4 45 RX4 yX4_asked wsX4_asked) := goodIn_app (goodIn_of _ (by decide +kernel)) ggX4_sold_X4_asked
set_option maxRecDepth 20000 in
theorem ggX4_taken_X4_told : GoodIn wsX4_taken wsX4_told := goodIn_r _ [6, 7, 8, 9, 10, 11, 12, 13, 14, 15, 16, 17, 18, 19, 20, 21] (by decide +kernel) (by decide +kernel)
set_option maxRecDepth 20000 in
theorem gX4_taken_X4_told : GoodIn wsX4_taken (wsV RX4 85 RX4 yX4_told wsX4_told) := goodIn_app (goodIn_of _ (by decide +kernel)) ggX4_taken_X4_told
set_option maxRecDepth 20000 in
theorem ggX4_wouldSell_X4_isStore : GoodIn wsX4_wouldSell wsX4_isStore := goodIn_r _ [4, 5, 6, 3, 7] (by decide +kernel) (by decide +kernel)
set_option maxRecDepth 20000 in
theorem gX4_wouldSell_X4_isStore : GoodIn wsX4_wouldSell (va_wsS RX4 62 yX4_isStore wsX4_isStore) := goodIn_app (goodIn_of _ (by decide +kernel)) ggX4_wouldSell_X4_isStore
set_option maxRecDepth 20000 in
theorem ggX4_wouldSell_X4_isStep : GoodIn wsX4_wouldSell wsX4_isStep := goodIn_r _ [10, 5, 6, 3, 7] (by decide +kernel) (by decide +kernel)
set_option maxRecDepth 20000 in
theorem gX4_wouldSell_X4_isStep : GoodIn wsX4_wouldSell (va_wsS RX4 55 yX4_isStep wsX4_isStep) := goodIn_app (goodIn_of _ (by decide +kernel)) ggX4_wouldSell_X4_isStep
set_option maxRecDepth 20000 in
theorem ggX4_wouldSell_X4_asked : GoodIn wsX4_wouldSell wsX4_asked := goodIn_r _ [14, 15, 26, 27, 28, 29, 30, 31, 32, 33, 34, 35, 36, 37, 38, 39] (by decide +kernel) (by decide +kernel)
set_option maxRecDepth 20000 in
theorem gX4_wouldSell_X4_asked : GoodIn wsX4_wouldSell (wsV RX4 45 RX4 yX4_asked wsX4_asked) := goodIn_app (goodIn_of _ (by decide +kernel)) ggX4_wouldSell_X4_asked
set_option maxRecDepth 20000 in
theorem ggX4_wouldSell_X4_sells : GoodIn wsX4_wouldSell wsX4_sells := goodIn_r _ [19, 20, 21, 22, 23, 24, 3, 25, 26, 27, 28, 29, 30, 31, 32, 33, 34, 35, 36, 37, 38, 39] (by decide +kernel) (by decide +kernel)
set_option maxRecDepth 20000 in
theorem gX4_wouldSell_X4_sells : GoodIn wsX4_wouldSell (wsV RX4 81 RX4 yX4_sells wsX4_sells) := goodIn_app (goodIn_of _ (by decide +kernel)) ggX4_wouldSell_X4_sells
set_option maxRecDepth 20000 in
theorem ggX4_worthOf_X4_at : GoodIn wsX4_worthOf wsX4_at := goodIn_r _ [8] (by decide +kernel) (by decide +kernel)
set_option maxRecDepth 20000 in
theorem gX4_worthOf_X4_at : GoodIn wsX4_worthOf (va_wsS RX4 88 yX4_at wsX4_at) := goodIn_app (goodIn_of _ (by decide +kernel)) ggX4_worthOf_X4_at
set_option maxRecDepth 20000 in
theorem ggX4_finds_X4_worthOf : GoodIn wsX4_finds wsX4_worthOf := goodIn_r _ [10, 11, 12, 1, 13, 14, 15, 9, 16, 27, 28, 29, 30, 31, 32, 33, 34, 35, 36, 37, 38, 39, 40] (by decide +kernel) (by decide +kernel)
set_option maxRecDepth 20000 in
theorem gX4_finds_X4_worthOf : GoodIn wsX4_finds (wsV RX4 92 RX4 yX4_worthOf wsX4_worthOf) := goodIn_app (goodIn_of _ (by decide +kernel)) ggX4_finds_X4_worthOf
set_option maxRecDepth 20000 in
theorem ggX4_finds_X4_waits : GoodIn wsX4_finds wsX4_waits := goodIn_r _ [20, 21, 12, 4, 27, 28, 29, 30, 31, 32, 33, 34, 35, 36, 37, 38, 39, 40] (by decide +kernel) (by decide +kernel)
set_option maxRecDepth 20000 in
theorem gX4_finds_X4_waits : GoodIn wsX4_finds (wsV RX4 78 RX4 yX4_waits wsX4_waits) := goodIn_app (goodIn_of _ (by decide +kernel)) ggX4_finds_X4_waits
set_option maxRecDepth 20000 in
theorem ggX4_finds_X4_whole : GoodIn wsX4_finds wsX4_whole := goodIn_r _ [25, 26, 27, 28, 29, 30, 31, 32, 33, 34, 35, 36, 37, 38, 39, 40] (by decide +kernel) (by decide +kernel)
set_option maxRecDepth 20000 in
theorem gX4_finds_X4_whole : GoodIn wsX4_finds (wsV RX4 74 RX4 yX4_whole wsX4_whole) := goodIn_app (goodIn_of _ (by decide +kernel)) ggX4_finds_X4_whole
set_option maxRecDepth 20000 in
theorem ggX4_finds_X4_at : GoodIn wsX4_finds wsX4_at := goodIn_r _ [16] (by decide +kernel) (by decide +kernel)
set_option maxRecDepth 20000 in
theorem gX4_finds_X4_at : GoodIn wsX4_finds (va_wsS RX4 88 yX4_at wsX4_at) := goodIn_app (goodIn_of _ (by decide +kernel)) ggX4_finds_X4_at
set_option maxRecDepth 20000 in
theorem ggX4_best_X4_isStore : GoodIn wsX4_best wsX4_isStore := goodIn_r _ [4, 5, 6, 3, 7] (by decide +kernel) (by decide +kernel)
set_option maxRecDepth 20000 in
theorem gX4_best_X4_isStore : GoodIn wsX4_best (va_wsS RX4 62 yX4_isStore wsX4_isStore) := goodIn_app (goodIn_of _ (by decide +kernel)) ggX4_best_X4_isStore
set_option maxRecDepth 20000 in
theorem ggX4_best_X4_asked : GoodIn wsX4_best wsX4_asked := goodIn_r _ [11, 12, 42, 43, 44, 45, 46, 47, 48, 49, 50, 51, 52, 53, 54, 55] (by decide +kernel) (by decide +kernel)
set_option maxRecDepth 20000 in
theorem gX4_best_X4_asked : GoodIn wsX4_best (wsV RX4 45 RX4 yX4_asked wsX4_asked) := goodIn_app (goodIn_of _ (by decide +kernel)) ggX4_best_X4_asked
set_option maxRecDepth 20000 in
theorem ggX4_best_X4_finds : GoodIn wsX4_best wsX4_finds := goodIn_r _ [16, 17, 18, 19, 20, 21, 22, 23, 24, 3, 25, 26, 27, 28, 29, 30, 31, 32, 33, 34, 35, 36, 37, 38, 39, 40, 41, 42, 43, 44, 45, 46, 47, 48, 49, 50, 51, 52, 53, 54, 55] (by decide +kernel) (by decide +kernel)
set_option maxRecDepth 20000 in
theorem gX4_best_X4_finds : GoodIn wsX4_best (wsV RX4 96 RX4 yX4_finds wsX4_finds) := goodIn_app (goodIn_of _ (by decide +kernel)) ggX4_best_X4_finds
set_option maxRecDepth 20000 in
theorem ggX4_bestByAll_X4_isStore : GoodIn wsX4_bestByAll wsX4_isStore := goodIn_r _ [6, 7, 8, 5, 9] (by decide +kernel) (by decide +kernel)
set_option maxRecDepth 20000 in
theorem gX4_bestByAll_X4_isStore : GoodIn wsX4_bestByAll (va_wsS RX4 62 yX4_isStore wsX4_isStore) := goodIn_app (goodIn_of _ (by decide +kernel)) ggX4_bestByAll_X4_isStore
set_option maxRecDepth 20000 in
theorem ggX4_bestByAll_X4_asked_ : GoodIn wsX4_bestByAll wsX4_asked_ := goodIn_r _ [13, 14, 42, 43, 44, 45, 46, 47, 48, 49, 50, 51, 52, 53, 54, 55] (by decide +kernel) (by decide +kernel)
set_option maxRecDepth 20000 in
theorem gX4_bestByAll_X4_asked_ : GoodIn wsX4_bestByAll (wsV RX4 59 RX4 yX4_asked_ wsX4_asked_) := goodIn_app (goodIn_of _ (by decide +kernel)) ggX4_bestByAll_X4_asked_
set_option maxRecDepth 20000 in
theorem ggX4_bestByAll_X4_finds : GoodIn wsX4_bestByAll wsX4_finds := goodIn_r _ [18, 19, 1, 20, 2, 21, 22, 23, 24, 5, 25, 26, 27, 28, 29, 30, 31, 32, 33, 34, 35, 36, 37, 38, 39, 40, 41, 42, 43, 44, 45, 46, 47, 48, 49, 50, 51, 52, 53, 54, 55] (by decide +kernel) (by decide +kernel)
set_option maxRecDepth 20000 in
theorem gX4_bestByAll_X4_finds : GoodIn wsX4_bestByAll (wsV RX4 96 RX4 yX4_finds wsX4_finds) := goodIn_app (goodIn_of _ (by decide +kernel)) ggX4_bestByAll_X4_finds
set_option maxRecDepth 20000 in
theorem ggX4_planned_X4_isStore : GoodIn wsX4_planned wsX4_isStore := goodIn_r _ [10, 11, 12, 9, 13] (by decide +kernel) (by decide +kernel)
set_option maxRecDepth 20000 in
theorem gX4_planned_X4_isStore : GoodIn wsX4_planned (va_wsS RX4 62 yX4_isStore wsX4_isStore) := goodIn_app (goodIn_of _ (by decide +kernel)) ggX4_planned_X4_isStore
set_option maxRecDepth 20000 in
theorem ggX4_planned_X4_in : GoodIn wsX4_planned wsX4_in := goodIn_r _ [13] (by decide +kernel) (by decide +kernel)
set_option maxRecDepth 20000 in
theorem gX4_planned_X4_in : GoodIn wsX4_planned (va_wsS RX4 41 yX4_in wsX4_in) := goodIn_app (goodIn_of _ (by decide +kernel)) ggX4_planned_X4_in
set_option maxRecDepth 20000 in
theorem ggX4_planned_X4_asked : GoodIn wsX4_planned wsX4_asked := goodIn_r _ [17, 18, 42, 43, 44, 45, 46, 47, 48, 49, 50, 51, 52, 53, 54, 55] (by decide +kernel) (by decide +kernel)
set_option maxRecDepth 20000 in
theorem gX4_planned_X4_asked : GoodIn wsX4_planned (wsV RX4 45 RX4 yX4_asked wsX4_asked) := goodIn_app (goodIn_of _ (by decide +kernel)) ggX4_planned_X4_asked
set_option maxRecDepth 20000 in
theorem ggX4_planned_X4_finds : GoodIn wsX4_planned wsX4_finds := goodIn_r _ [22, 23, 2, 24, 1, 3, 25, 26, 27, 9, 28, 4, 6, 5, 29, 30, 31, 32, 33, 34, 35, 36, 37, 38, 39, 40, 41, 42, 43, 44, 45, 46, 47, 48, 49, 50, 51, 52, 53, 54, 55] (by decide +kernel) (by decide +kernel)
set_option maxRecDepth 20000 in
theorem gX4_planned_X4_finds : GoodIn wsX4_planned (wsV RX4 96 RX4 yX4_finds wsX4_finds) := goodIn_app (goodIn_of _ (by decide +kernel)) ggX4_planned_X4_finds
set_option maxRecDepth 20000 in
theorem ggX4_planned_X4_waits : GoodIn wsX4_planned wsX4_waits := goodIn_r _ [35, 36, 6, 1, 42, 43, 44, 45, 46, 47, 48, 49, 50, 51, 52, 53, 54, 55] (by decide +kernel) (by decide +kernel)
set_option maxRecDepth 20000 in
theorem gX4_planned_X4_waits : GoodIn wsX4_planned (wsV RX4 78 RX4 yX4_waits wsX4_waits) := goodIn_app (goodIn_of _ (by decide +kernel)) ggX4_planned_X4_waits
set_option maxRecDepth 20000 in
theorem ggX4_planned_X4_whole : GoodIn wsX4_planned wsX4_whole := goodIn_r _ [40, 41, 42, 43, 44, 45, 46, 47, 48, 49, 50, 51, 52, 53, 54, 55] (by decide +kernel) (by decide +kernel)
set_option maxRecDepth 20000 in
theorem gX4_planned_X4_whole : GoodIn wsX4_planned (wsV RX4 74 RX4 yX4_whole wsX4_whole) := goodIn_app (goodIn_of _ (by decide +kernel)) ggX4_planned_X4_whole
set_option maxRecDepth 20000 in
theorem ggX4_planned_X4_worthOf : GoodIn wsX4_planned wsX4_worthOf := goodIn_r _ [28, 4, 6, 23, 5, 29, 30, 9, 31, 42, 43, 44, 45, 46, 47, 48, 49, 50, 51, 52, 53, 54, 55] (by decide +kernel) (by decide +kernel)
set_option maxRecDepth 20000 in
theorem gX4_planned_X4_worthOf : GoodIn wsX4_planned (wsV RX4 92 RX4 yX4_worthOf wsX4_worthOf) := goodIn_app (goodIn_of _ (by decide +kernel)) ggX4_planned_X4_worthOf
set_option maxRecDepth 20000 in
theorem ggX4_bestLeaving_X4_isStore : GoodIn wsX4_bestLeaving wsX4_isStore := goodIn_r _ [4, 5, 6, 3, 7] (by decide +kernel) (by decide +kernel)
set_option maxRecDepth 20000 in
theorem gX4_bestLeaving_X4_isStore : GoodIn wsX4_bestLeaving (va_wsS RX4 62 yX4_isStore wsX4_isStore) := goodIn_app (goodIn_of _ (by decide +kernel)) ggX4_bestLeaving_X4_isStore
set_option maxRecDepth 20000 in
theorem ggX4_bestLeaving_X4_in : GoodIn wsX4_bestLeaving wsX4_in := goodIn_r _ [7] (by decide +kernel) (by decide +kernel)
set_option maxRecDepth 20000 in
theorem gX4_bestLeaving_X4_in : GoodIn wsX4_bestLeaving (va_wsS RX4 41 yX4_in wsX4_in) := goodIn_app (goodIn_of _ (by decide +kernel)) ggX4_bestLeaving_X4_in
set_option maxRecDepth 20000 in
theorem ggX4_bestLeaving_X4_asked : GoodIn wsX4_bestLeaving wsX4_asked := goodIn_r _ [11, 12, 42, 43, 44, 45, 46, 47, 48, 49, 50, 51, 52, 53, 54, 55] (by decide +kernel) (by decide +kernel)
set_option maxRecDepth 20000 in
theorem gX4_bestLeaving_X4_asked : GoodIn wsX4_bestLeaving (wsV RX4 45 RX4 yX4_asked wsX4_asked) := goodIn_app (goodIn_of _ (by decide +kernel)) ggX4_bestLeaving_X4_asked
set_option maxRecDepth 20000 in
theorem ggX4_bestLeaving_X4_finds : GoodIn wsX4_bestLeaving wsX4_finds := goodIn_r _ [16, 17, 18, 19, 20, 21, 22, 23, 24, 3, 25, 26, 27, 28, 29, 30, 31, 32, 33, 34, 35, 36, 37, 38, 39, 40, 41, 42, 43, 44, 45, 46, 47, 48, 49, 50, 51, 52, 53, 54, 55] (by decide +kernel) (by decide +kernel)
set_option maxRecDepth 20000 in
theorem gX4_bestLeaving_X4_finds : GoodIn wsX4_bestLeaving (wsV RX4 96 RX4 yX4_finds wsX4_finds) := goodIn_app (goodIn_of _ (by decide +kernel)) ggX4_bestLeaving_X4_finds
theorem dJ9_max_7cf53_0 : decode cJ9_max_7cf53 0 = .ok (.iload_n 0, 1) := by decide +kernel
theorem dJ9_max_7cf53_1 : decode cJ9_max_7cf53 1 = .ok (.iload_n 1, 1) := by decide +kernel
theorem dJ9_max_7cf53_2 : decode cJ9_max_7cf53 2 = .ok (.if_icmp .lt 7, 3) := by decide +kernel
theorem dJ9_max_7cf53_5 : decode cJ9_max_7cf53 5 = .ok (.iload_n 0, 1) := by decide +kernel
theorem dJ9_max_7cf53_6 : decode cJ9_max_7cf53 6 = .ok (.goto 4, 3) := by decide +kernel
theorem dJ9_max_7cf53_9 : decode cJ9_max_7cf53 9 = .ok (.iload_n 1, 1) := by decide +kernel
theorem dJ9_max_7cf53_10 : decode cJ9_max_7cf53 10 = .ok (.ireturn, 1) := by decide +kernel
theorem dJ9_min_7cf53_0 : decode cJ9_min_7cf53 0 = .ok (.iload_n 0, 1) := by decide +kernel
theorem dJ9_min_7cf53_1 : decode cJ9_min_7cf53 1 = .ok (.iload_n 1, 1) := by decide +kernel
theorem dJ9_min_7cf53_2 : decode cJ9_min_7cf53 2 = .ok (.if_icmp .gt 7, 3) := by decide +kernel
theorem dJ9_min_7cf53_5 : decode cJ9_min_7cf53 5 = .ok (.iload_n 0, 1) := by decide +kernel
theorem dJ9_min_7cf53_6 : decode cJ9_min_7cf53 6 = .ok (.goto 4, 3) := by decide +kernel
theorem dJ9_min_7cf53_9 : decode cJ9_min_7cf53 9 = .ok (.iload_n 1, 1) := by decide +kernel
theorem dJ9_min_7cf53_10 : decode cJ9_min_7cf53 10 = .ok (.ireturn, 1) := by decide +kernel
set_option maxRecDepth 20000 in
theorem ggL_begin_X3_begin : GoodIn wsL_begin wsX3_begin := goodIn_ca (goodIn_r _ [6, 7, 8, 9, 10, 5, 11, 12, 13, 14, 15, 16, 17, 18, 19, 20, 21, 22, 23, 24, 25, 26, 27, 28, 29, 30, 31, 32, 33, 34, 35, 36, 37, 38, 39, 40, 41, 42] (by decide +kernel) (by decide +kernel)) (goodIn_sub (fun _ h => List.mem_cons_of_mem _ (List.mem_append_right _ h)) (by decide +kernel))
set_option maxRecDepth 20000 in
theorem gL_begin_X3_begin : GoodIn wsL_begin (wsV RL 7 RX3 yX3_begin wsX3_begin) := goodIn_app (goodIn_of _ (by decide +kernel)) ggL_begin_X3_begin
set_option maxRecDepth 20000 in
theorem ggL_setPrice_X3_setPrice : GoodIn wsL_setPrice wsX3_setPrice := goodIn_ca (goodIn_ca (goodIn_r _ [7, 8, 9, 10, 11, 12, 6, 13, 14, 15, 16, 17, 18, 19, 20, 21, 22, 23, 24, 25, 26, 27, 28, 29, 30, 31, 32, 33] (by decide +kernel) (by decide +kernel)) (goodIn_sub (fun _ h => List.mem_cons_of_mem _ (List.mem_append_left _ (List.mem_append_right _ h))) (by decide +kernel))) (goodIn_sub (fun _ h => List.mem_cons_of_mem _ (List.mem_append_right _ h)) (by decide +kernel))
set_option maxRecDepth 20000 in
theorem gL_setPrice_X3_setPrice : GoodIn wsL_setPrice (wsV RL 15 RX3 yX3_setPrice wsX3_setPrice) := goodIn_app (goodIn_of _ (by decide +kernel)) ggL_setPrice_X3_setPrice
set_option maxRecDepth 20000 in
theorem ggL_setDemand_X3_setDemand : GoodIn wsL_setDemand wsX3_setDemand := goodIn_ca (goodIn_r _ [6, 7, 8, 9, 5, 10, 11, 12, 13, 14, 15, 16, 17, 18, 19, 20, 21, 22, 23, 24, 25, 26, 27] (by decide +kernel) (by decide +kernel)) (goodIn_sub (fun _ h => List.mem_cons_of_mem _ (List.mem_append_right _ h)) (by decide +kernel))
set_option maxRecDepth 20000 in
theorem gL_setDemand_X3_setDemand : GoodIn wsL_setDemand (wsV RL 21 RX3 yX3_setDemand wsX3_setDemand) := goodIn_app (goodIn_of _ (by decide +kernel)) ggL_setDemand_X3_setDemand
set_option maxRecDepth 20000 in
theorem ggL_setRules_X3_setRules : GoodIn wsL_setRules wsX3_setRules := goodIn_ca (goodIn_r _ [6, 7, 8, 9, 5, 10, 11, 12, 13, 14, 15, 16, 17, 18, 19, 20, 21, 22] (by decide +kernel) (by decide +kernel)) (goodIn_sub (fun _ h => List.mem_cons_of_mem _ (List.mem_append_right _ h)) (by decide +kernel))
set_option maxRecDepth 20000 in
theorem gL_setRules_X3_setRules : GoodIn wsL_setRules (wsV RL 25 RX3 yX3_setRules wsX3_setRules) := goodIn_app (goodIn_of _ (by decide +kernel)) ggL_setRules_X3_setRules
set_option maxRecDepth 20000 in
theorem ggL_put_X3_put : GoodIn wsL_put wsX3_put := goodIn_ca (goodIn_ca (goodIn_r _ [7, 8, 9, 10, 6, 11, 12, 13, 14, 15, 16, 17, 18, 19, 20, 21, 22, 23, 24, 25, 26, 27, 28, 29, 30, 31, 32, 33, 34, 35, 36, 37, 38] (by decide +kernel) (by decide +kernel)) (goodIn_sub (fun _ h => List.mem_cons_of_mem _ (List.mem_append_left _ (List.mem_append_right _ h))) (by decide +kernel))) (goodIn_sub (fun _ h => List.mem_cons_of_mem _ (List.mem_append_right _ h)) (by decide +kernel))
set_option maxRecDepth 20000 in
theorem gL_put_X3_put : GoodIn wsL_put (wsV RL 29 RX3 yX3_put wsX3_put) := goodIn_app (goodIn_of _ (by decide +kernel)) ggL_put_X3_put
set_option maxRecDepth 20000 in
theorem ggL_markDown_X3_markDown : GoodIn wsL_markDown wsX3_markDown := goodIn_ca (goodIn_ca (goodIn_r _ [7, 8, 9, 10, 11, 12, 13, 6, 14, 15, 16, 17, 18, 19, 20, 21, 22, 23, 24, 25, 26, 27, 28, 29, 30, 31, 32, 33, 34, 35, 36, 37, 38, 39, 40, 41, 42, 43, 44, 45, 46, 47, 48, 49, 50, 51] (by decide +kernel) (by decide +kernel)) (goodIn_sub (fun _ h => List.mem_cons_of_mem _ (List.mem_append_left _ (List.mem_append_right _ h))) (by decide +kernel))) (goodIn_sub (fun _ h => List.mem_cons_of_mem _ (List.mem_append_right _ h)) (by decide +kernel))
set_option maxRecDepth 20000 in
theorem gL_markDown_X3_markDown : GoodIn wsL_markDown (wsV RL 32 RX3 yX3_markDown wsX3_markDown) := goodIn_app (goodIn_of _ (by decide +kernel)) ggL_markDown_X3_markDown
set_option maxRecDepth 20000 in
theorem ggL_move_X3_move : GoodIn wsL_move wsX3_move := goodIn_ca (goodIn_ca (goodIn_r _ [7, 8, 9, 10, 11, 12, 13, 14, 15, 6, 16, 17, 18, 19, 20, 21, 22, 23, 24, 25, 26, 27, 28, 29, 30, 31, 32, 33, 34, 35, 36, 37, 38, 39, 40, 41, 42, 43, 44, 45, 46, 47, 48, 49, 50] (by decide +kernel) (by decide +kernel)) (goodIn_sub (fun _ h => List.mem_cons_of_mem _ (List.mem_append_left _ (List.mem_append_right _ h))) (by decide +kernel))) (goodIn_sub (fun _ h => List.mem_cons_of_mem _ (List.mem_append_right _ h)) (by decide +kernel))
set_option maxRecDepth 20000 in
theorem gL_move_X3_move : GoodIn wsL_move (wsV RL 35 RX3 yX3_move wsX3_move) := goodIn_app (goodIn_of _ (by decide +kernel)) ggL_move_X3_move
set_option maxRecDepth 20000 in
theorem ggL_run_X3_run : GoodIn wsL_run wsX3_run := goodIn_ca (goodIn_r _ [6, 7, 8, 9, 10, 11, 5, 12, 13, 14, 15, 16, 17, 18, 19, 20, 21, 22, 23, 24, 25, 26, 27, 28, 29, 30, 31, 32, 33, 34, 35, 36, 37, 38, 39, 40, 41, 42, 43, 44, 45, 46, 47, 48, 49, 50, 51, 52, 53, 54, 55, 56, 57] (by decide +kernel) (by decide +kernel)) (goodIn_sub (fun _ h => List.mem_cons_of_mem _ (List.mem_append_right _ h)) (by decide +kernel))
set_option maxRecDepth 20000 in
theorem gL_run_X3_run : GoodIn wsL_run (wsV RL 39 RX3 yX3_run wsX3_run) := goodIn_app (goodIn_of _ (by decide +kernel)) ggL_run_X3_run
set_option maxRecDepth 20000 in
theorem ggL_stock_X3_stock : GoodIn wsL_stock wsX3_stock := goodIn_ca (goodIn_r _ [6, 7, 8, 9, 5, 10, 11, 12, 13, 14, 15, 16, 17, 18, 19, 20, 21, 22, 23, 24, 25, 26, 27] (by decide +kernel) (by decide +kernel)) (goodIn_sub (fun _ h => List.mem_cons_of_mem _ (List.mem_append_right _ h)) (by decide +kernel))
set_option maxRecDepth 20000 in
theorem gL_stock_X3_stock : GoodIn wsL_stock (wsV RL 43 RX3 yX3_stock wsX3_stock) := goodIn_app (goodIn_of _ (by decide +kernel)) ggL_stock_X3_stock
set_option maxRecDepth 20000 in
theorem ggL_step_X3_step : GoodIn wsL_step wsX3_step := goodIn_ca (goodIn_r _ [6, 7, 8, 9, 5, 10, 11, 12, 13, 14, 15, 16, 17, 18, 19, 20, 21, 22, 23, 24] (by decide +kernel) (by decide +kernel)) (goodIn_sub (fun _ h => List.mem_cons_of_mem _ (List.mem_append_right _ h)) (by decide +kernel))
set_option maxRecDepth 20000 in
theorem gL_step_X3_step : GoodIn wsL_step (wsV RL 46 RX3 yX3_step wsX3_step) := goodIn_app (goodIn_of _ (by decide +kernel)) ggL_step_X3_step
set_option maxRecDepth 20000 in
theorem ggL_weeksToWait_X3_weeksToWait : GoodIn wsL_weeksToWait wsX3_weeksToWait := goodIn_ca (goodIn_r _ [6, 7, 8, 9, 10, 5, 11, 12, 13, 14, 15, 16, 17, 18, 19, 20, 21, 22, 23, 24, 25, 26, 27, 28, 29, 30, 31, 32, 33, 34, 35, 36, 37, 38, 39, 40, 41] (by decide +kernel) (by decide +kernel)) (goodIn_sub (fun _ h => List.mem_cons_of_mem _ (List.mem_append_right _ h)) (by decide +kernel))
set_option maxRecDepth 20000 in
theorem gL_weeksToWait_X3_weeksToWait : GoodIn wsL_weeksToWait (wsV RL 49 RX3 yX3_weeksToWait wsX3_weeksToWait) := goodIn_app (goodIn_of _ (by decide +kernel)) ggL_weeksToWait_X3_weeksToWait
set_option maxRecDepth 20000 in
theorem ggL_sold_X3_sold : GoodIn wsL_sold wsX3_sold := goodIn_ca (goodIn_r _ [6, 7, 8, 9, 5, 10, 11, 12, 13, 14, 15, 16, 17, 18, 19, 20, 21, 22, 23, 24] (by decide +kernel) (by decide +kernel)) (goodIn_sub (fun _ h => List.mem_cons_of_mem _ (List.mem_append_right _ h)) (by decide +kernel))
set_option maxRecDepth 20000 in
theorem gL_sold_X3_sold : GoodIn wsL_sold (wsV RL 52 RX3 yX3_sold wsX3_sold) := goodIn_app (goodIn_of _ (by decide +kernel)) ggL_sold_X3_sold
set_option maxRecDepth 20000 in
theorem ggL_wouldSell_X3_wouldSell : GoodIn wsL_wouldSell wsX3_wouldSell := goodIn_ca (goodIn_r _ [6, 7, 8, 9, 5, 10, 11, 12, 13, 14, 15, 16, 17, 18, 19, 20, 21, 22, 23, 24, 25, 26, 27, 28, 29, 30, 31, 32, 33, 34, 35, 36, 37, 38, 39, 40, 41, 42, 43, 44, 45] (by decide +kernel) (by decide +kernel)) (goodIn_sub (fun _ h => List.mem_cons_of_mem _ (List.mem_append_right _ h)) (by decide +kernel))
set_option maxRecDepth 20000 in
theorem gL_wouldSell_X3_wouldSell : GoodIn wsL_wouldSell (wsV RL 55 RX3 yX3_wouldSell wsX3_wouldSell) := goodIn_app (goodIn_of _ (by decide +kernel)) ggL_wouldSell_X3_wouldSell
set_option maxRecDepth 20000 in
theorem ggL_best_X3_best : GoodIn wsL_best wsX3_best := goodIn_ca (goodIn_r _ [6, 7, 8, 9, 10, 11, 5, 12, 13, 14, 15, 16, 17, 18, 19, 20, 21, 22, 23, 24, 25, 26, 27, 28, 29, 30, 31, 32, 33, 34, 35, 36, 37, 38, 39, 40, 41, 42, 43, 44, 45, 46, 47, 48, 49, 50, 51, 52, 53, 54, 55, 56, 57, 58, 59, 60, 61, 62, 63, 64, 65, 66, 67, 68, 69, 70, 71, 72, 73, 74, 75, 76, 77, 78, 79, 80, 81, 82, 83, 84, 85, 86, 87, 88, 89, 90, 91, 92, 93, 94, 95, 96, 97, 98, 99, 100, 101, 102, 103, 104, 105, 106, 107] (by decide +kernel) (by decide +kernel)) (goodIn_sub (fun _ h => List.mem_cons_of_mem _ (List.mem_append_right _ h)) (by decide +kernel))
set_option maxRecDepth 20000 in
theorem gL_best_X3_best : GoodIn wsL_best (wsV RL 58 RX3 yX3_best wsX3_best) := goodIn_app (goodIn_of _ (by decide +kernel)) ggL_best_X3_best
set_option maxRecDepth 20000 in
theorem ggL_bestByAll_X3_bestByAll : GoodIn wsL_bestByAll wsX3_bestByAll := goodIn_ca (goodIn_ca (goodIn_r _ [7, 8, 9, 10, 11, 12, 13, 14, 6, 15, 16, 17, 18, 19, 20, 21, 22, 23, 24, 25, 26, 27, 28, 29, 30, 31, 32, 33, 34, 35, 36, 37, 38, 39, 40, 41, 42, 43, 44, 45, 46, 47, 48, 49, 50, 51, 52, 53, 54, 55, 56, 57, 58, 59, 60, 61, 62, 63, 64, 65, 66, 67, 68, 69, 70, 71, 72, 73, 74, 75, 76, 77, 78, 79, 80, 81, 82, 83, 84, 85, 86, 87, 88, 89, 90, 91, 92, 93, 94, 95] (by decide +kernel) (by decide +kernel)) (goodIn_sub (fun _ h => List.mem_cons_of_mem _ (List.mem_append_left _ (List.mem_append_right _ h))) (by decide +kernel))) (goodIn_sub (fun _ h => List.mem_cons_of_mem _ (List.mem_append_right _ h)) (by decide +kernel))
set_option maxRecDepth 20000 in
theorem gL_bestByAll_X3_bestByAll : GoodIn wsL_bestByAll (wsV RL 61 RX3 yX3_bestByAll wsX3_bestByAll) := goodIn_app (goodIn_of _ (by decide +kernel)) ggL_bestByAll_X3_bestByAll
set_option maxRecDepth 20000 in
theorem ggL_planned_X3_planned : GoodIn wsL_planned wsX3_planned := goodIn_ca (goodIn_r _ [6, 7, 8, 9, 10, 11, 5, 12, 13, 14, 15, 16, 17, 18, 19, 20, 21, 22, 23, 24, 25, 26, 27, 28, 29, 30, 31, 32, 33, 34, 35, 36, 37, 38, 39, 40, 41, 42, 43, 44, 45, 46, 47, 48, 49, 50, 51, 52, 53, 54, 55, 56, 57, 58, 59, 60, 61, 62, 63, 64, 65, 66, 67, 68, 69, 70, 71, 72, 73, 74, 75, 76, 77, 78, 79, 80, 81, 82, 83, 84, 85, 86, 87, 88, 89, 90, 91, 92, 93, 94, 95, 96, 97, 98, 99, 100, 101, 102, 103, 104, 105, 106, 107, 108, 109, 110, 111] (by decide +kernel) (by decide +kernel)) (goodIn_sub (fun _ h => List.mem_cons_of_mem _ (List.mem_append_right _ h)) (by decide +kernel))
set_option maxRecDepth 20000 in
theorem gL_planned_X3_planned : GoodIn wsL_planned (wsV RL 64 RX3 yX3_planned wsX3_planned) := goodIn_app (goodIn_of _ (by decide +kernel)) ggL_planned_X3_planned
set_option maxRecDepth 20000 in
theorem ggL_bestLeaving_X3_bestLeaving : GoodIn wsL_bestLeaving wsX3_bestLeaving := goodIn_ca (goodIn_r _ [6, 7, 8, 9, 10, 11, 5, 12, 13, 14, 15, 16, 17, 18, 19, 20, 21, 22, 23, 24, 25, 26, 27, 28, 29, 30, 31, 32, 33, 34, 35, 36, 37, 38, 39, 40, 41, 42, 43, 44, 45, 46, 47, 48, 49, 50, 51, 52, 53, 54, 55, 56, 57, 58, 59, 60, 61, 62, 63, 64, 65, 66, 67, 68, 69, 70, 71, 72, 73, 74, 75, 76, 77, 78, 79, 80, 81, 82, 83, 84, 85, 86, 87, 88, 89, 90, 91, 92, 93, 94, 95, 96, 97, 98, 99, 100, 101, 102, 103, 104, 105, 106, 107] (by decide +kernel) (by decide +kernel)) (goodIn_sub (fun _ h => List.mem_cons_of_mem _ (List.mem_append_right _ h)) (by decide +kernel))
set_option maxRecDepth 20000 in
theorem gL_bestLeaving_X3_bestLeaving : GoodIn wsL_bestLeaving (wsV RL 67 RX3 yX3_bestLeaving wsX3_bestLeaving) := goodIn_app (goodIn_of _ (by decide +kernel)) ggL_bestLeaving_X3_bestLeaving
set_option maxRecDepth 20000 in
theorem ggL_law_X3_init : GoodIn wsL_law wsX3_init := goodIn_r _ [9, 10, 11, 12, 13, 14, 15, 16, 17, 18, 19, 20, 21, 22, 23, 24, 25, 26, 27, 28, 29, 30, 31, 32, 33, 34, 35, 36, 37, 38, 39, 40, 41, 42, 43, 44, 465, 466, 467, 468, 469, 470, 471, 448, 449, 450, 472, 473, 474, 475, 476, 477, 478, 479, 480, 481, 482, 483, 484, 485, 486, 487, 488] (by decide +kernel) (by decide +kernel)
set_option maxRecDepth 20000 in
theorem gL_law_X3_init : GoodIn wsL_law (wsX3_init) := ggL_law_X3_init
set_option maxRecDepth 20000 in
theorem ggL_law_X4_init : GoodIn wsL_law wsX4_init := goodIn_r _ [47, 48, 11, 12, 49, 28, 50, 51, 52, 53, 54, 55, 56, 57, 451, 452, 453, 454, 455, 456, 457, 458, 459, 460, 461, 462, 463, 464] (by decide +kernel) (by decide +kernel)
set_option maxRecDepth 20000 in
theorem gL_law_X4_init : GoodIn wsL_law (wsX4_init) := ggL_law_X4_init
set_option maxRecDepth 20000 in
theorem ggL_law_L_begin : GoodIn wsL_law wsL_begin := goodIn_ca (goodIn_r _ [61, 62, 63, 64, 65, 2, 66, 16, 18, 67, 68, 69, 70, 71, 72, 15, 73, 74, 30, 75, 76, 77, 24, 78, 79, 80, 44, 81, 448, 449, 450, 465, 466, 467, 468, 469, 470, 471, 484, 485, 486, 487, 488] (by decide +kernel) (by decide +kernel)) (goodIn_sub (fun _ h => List.mem_append_left _ (List.mem_append_right _ h)) (by decide +kernel))
set_option maxRecDepth 20000 in
theorem gL_law_L_begin : GoodIn wsL_law (va_wsS RL 74 yL_begin wsL_begin) := goodIn_app (goodIn_of _ (by decide +kernel)) ggL_law_L_begin
set_option maxRecDepth 20000 in
theorem ggL_law_X4_begin : GoodIn wsL_law wsX4_begin := goodIn_r _ [85, 86, 49, 87, 54, 55, 56, 88, 89, 5, 90, 91, 92, 93, 94, 95, 451, 452, 453, 454, 455, 456, 457, 458, 459, 460, 461, 462, 463, 464] (by decide +kernel) (by decide +kernel)
set_option maxRecDepth 20000 in
theorem gL_law_X4_begin : GoodIn wsL_law (wsV RL 79 RX4 yX4_begin wsX4_begin) := goodIn_app (goodIn_of _ (by decide +kernel)) ggL_law_X4_begin
set_option maxRecDepth 20000 in
theorem ggL_law_X4_thrown : GoodIn wsL_law wsX4_thrown := goodIn_r _ [99, 95, 451, 452, 453, 454, 455, 456, 457, 458, 459, 460, 461, 462, 463, 464] (by decide +kernel) (by decide +kernel)
set_option maxRecDepth 20000 in
theorem gL_law_X4_thrown : GoodIn wsL_law (wsV RL 80 RX4 yX4_thrown wsX4_thrown) := goodIn_app (goodIn_of _ (by decide +kernel)) ggL_law_X4_thrown
set_option maxRecDepth 20000 in
theorem ggL_law_L_setPrice : GoodIn wsL_law wsL_setPrice := goodIn_ca (goodIn_ca (goodIn_r _ [102, 62, 103, 104, 105, 106, 2, 107, 108, 109, 16, 110, 111, 112, 67, 68, 69, 70, 71, 113, 15, 114, 115, 29, 448, 449, 450, 465, 466, 467, 468, 469, 470, 471] (by decide +kernel) (by decide +kernel)) (goodIn_sub (fun _ h => List.mem_append_right _ h) (by decide +kernel))) (goodIn_sub (fun _ h => List.mem_append_left _ (List.mem_append_right _ h)) (by decide +kernel))
set_option maxRecDepth 20000 in
theorem gL_law_L_setPrice : GoodIn wsL_law (va_wsS RL 83 yL_setPrice wsL_setPrice) := goodIn_app (goodIn_of _ (by decide +kernel)) ggL_law_L_setPrice
set_option maxRecDepth 20000 in
theorem ggL_law_X4_setPrice : GoodIn wsL_law wsX4_setPrice := goodIn_r _ [119, 50, 120, 121, 5, 122, 88, 89, 90, 123, 124, 125, 126, 95, 451, 452, 453, 454, 455, 456, 457, 458, 459, 460, 461, 462, 463, 464] (by decide +kernel) (by decide +kernel)
set_option maxRecDepth 20000 in
theorem gL_law_X4_setPrice : GoodIn wsL_law (wsV RL 86 RX4 yX4_setPrice wsX4_setPrice) := goodIn_app (goodIn_of _ (by decide +kernel)) ggL_law_X4_setPrice
set_option maxRecDepth 20000 in
theorem ggL_law_L_setDemand : GoodIn wsL_law wsL_setDemand := goodIn_ca (goodIn_r _ [129, 62, 130, 131, 132, 2, 133, 134, 135, 136, 137, 18, 67, 68, 69, 70, 71, 110, 111, 112, 484, 485, 486, 487, 488, 448, 449, 450] (by decide +kernel) (by decide +kernel)) (goodIn_sub (fun _ h => List.mem_append_left _ (List.mem_append_right _ h)) (by decide +kernel))
set_option maxRecDepth 20000 in
theorem gL_law_L_setDemand : GoodIn wsL_law (va_wsS RL 87 yL_setDemand wsL_setDemand) := goodIn_app (goodIn_of _ (by decide +kernel)) ggL_law_L_setDemand
set_option maxRecDepth 20000 in
theorem ggL_law_X4_setDemand : GoodIn wsL_law wsX4_setDemand := goodIn_r _ [141, 51, 142, 143, 5, 144, 88, 89, 90, 120, 121, 122, 91, 92, 93, 94, 95, 451, 452, 453, 454, 455, 456, 457, 458, 459, 460, 461, 462, 463, 464] (by decide +kernel) (by decide +kernel)
set_option maxRecDepth 20000 in
theorem gL_law_X4_setDemand : GoodIn wsL_law (wsV RL 90 RX4 yX4_setDemand wsX4_setDemand) := goodIn_app (goodIn_of _ (by decide +kernel)) ggL_law_X4_setDemand
set_option maxRecDepth 20000 in
theorem ggL_law_L_setRules : GoodIn wsL_law wsL_setRules := goodIn_ca (goodIn_r _ [147, 62, 148, 149, 150, 2, 151, 16, 67, 68, 69, 70, 71, 448, 449, 450, 465, 466, 467, 468, 469, 470, 471] (by decide +kernel) (by decide +kernel)) (goodIn_sub (fun _ h => List.mem_append_left _ (List.mem_append_right _ h)) (by decide +kernel))
set_option maxRecDepth 20000 in
theorem gL_law_L_setRules : GoodIn wsL_law (va_wsS RL 91 yL_setRules wsL_setRules) := goodIn_app (goodIn_of _ (by decide +kernel)) ggL_law_L_setRules
set_option maxRecDepth 20000 in
theorem ggL_law_X4_setRules : GoodIn wsL_law wsX4_setRules := goodIn_r _ [155, 52, 156, 157, 88, 89, 5, 90, 91, 92, 93, 94, 95, 451, 452, 453, 454, 455, 456, 457, 458, 459, 460, 461, 462, 463, 464] (by decide +kernel) (by decide +kernel)
set_option maxRecDepth 20000 in
theorem gL_law_X4_setRules : GoodIn wsL_law (wsV RL 94 RX4 yX4_setRules wsX4_setRules) := goodIn_app (goodIn_of _ (by decide +kernel)) ggL_law_X4_setRules
set_option maxRecDepth 20000 in
theorem ggL_law_L_put : GoodIn wsL_law wsL_put := goodIn_ca (goodIn_ca (goodIn_r _ [160, 62, 103, 161, 162, 163, 2, 164, 134, 135, 136, 137, 18, 67, 68, 69, 70, 71, 165, 166, 167, 168, 169, 170, 108, 109, 171, 24, 172, 173, 43, 484, 485, 486, 487, 488, 448, 449, 450] (by decide +kernel) (by decide +kernel)) (goodIn_sub (fun _ h => List.mem_append_left _ (List.mem_append_right _ h)) (by decide +kernel))) (goodIn_sub (fun _ h => List.mem_append_right _ h) (by decide +kernel))
set_option maxRecDepth 20000 in
theorem gL_law_L_put : GoodIn wsL_law (va_wsS RL 95 yL_put wsL_put) := goodIn_app (goodIn_of _ (by decide +kernel)) ggL_law_L_put
set_option maxRecDepth 20000 in
theorem ggL_law_X4_put : GoodIn wsL_law wsX4_put := goodIn_r _ [177, 53, 142, 143, 5, 144, 88, 89, 90, 178, 179, 180, 181, 182, 183, 184, 123, 124, 125, 126, 95, 451, 452, 453, 454, 455, 456, 457, 458, 459, 460, 461, 462, 463, 464] (by decide +kernel) (by decide +kernel)
set_option maxRecDepth 20000 in
theorem gL_law_X4_put : GoodIn wsL_law (wsV RL 97 RX4 yX4_put wsX4_put) := goodIn_app (goodIn_of _ (by decide +kernel)) ggL_law_X4_put
set_option maxRecDepth 20000 in
theorem ggL_law_L_markDown : GoodIn wsL_law wsL_markDown := goodIn_ca (goodIn_ca (goodIn_r _ [187, 62, 103, 188, 189, 190, 2, 191, 108, 109, 16, 134, 135, 136, 137, 18, 67, 68, 69, 70, 71, 110, 111, 112, 192, 193, 194, 195, 196, 24, 197, 198, 44, 199, 200, 201, 202, 484, 485, 486, 487, 488, 448, 449, 450, 465, 466, 467, 468, 469, 470, 471] (by decide +kernel) (by decide +kernel)) (goodIn_sub (fun _ h => List.mem_append_right _ h) (by decide +kernel))) (goodIn_sub (fun _ h => List.mem_append_left _ (List.mem_append_right _ h)) (by decide +kernel))
set_option maxRecDepth 20000 in
theorem gL_law_L_markDown : GoodIn wsL_law (va_wsS RL 98 yL_markDown wsL_markDown) := goodIn_app (goodIn_of _ (by decide +kernel)) ggL_law_L_markDown
set_option maxRecDepth 20000 in
theorem ggL_law_X4_markDown : GoodIn wsL_law wsX4_markDown := goodIn_r _ [206, 86, 49, 54, 55, 50, 142, 143, 5, 144, 88, 89, 90, 120, 121, 122, 207, 208, 209, 210, 52, 123, 124, 125, 126, 95, 451, 452, 453, 454, 455, 456, 457, 458, 459, 460, 461, 462, 463, 464] (by decide +kernel) (by decide +kernel)
set_option maxRecDepth 20000 in
theorem gL_law_X4_markDown : GoodIn wsL_law (wsV RL 100 RX4 yX4_markDown wsX4_markDown) := goodIn_app (goodIn_of _ (by decide +kernel)) ggL_law_X4_markDown
set_option maxRecDepth 20000 in
theorem ggL_law_L_move : GoodIn wsL_law wsL_move := goodIn_ca (goodIn_ca (goodIn_r _ [213, 62, 103, 214, 215, 216, 2, 217, 70, 71, 108, 109, 16, 134, 135, 136, 137, 18, 67, 68, 69, 165, 166, 167, 192, 193, 194, 195, 168, 169, 170, 171, 24, 172, 173, 43, 484, 485, 486, 487, 488, 448, 449, 450, 465, 466, 467, 468, 469, 470, 471] (by decide +kernel) (by decide +kernel)) (goodIn_sub (fun _ h => List.mem_append_left _ (List.mem_append_right _ h)) (by decide +kernel))) (goodIn_sub (fun _ h => List.mem_append_right _ h) (by decide +kernel))
set_option maxRecDepth 20000 in
theorem gL_law_L_move : GoodIn wsL_law (va_wsS RL 101 yL_move wsL_move) := goodIn_app (goodIn_of _ (by decide +kernel)) ggL_law_L_move
set_option maxRecDepth 20000 in
theorem ggL_law_X4_move : GoodIn wsL_law wsX4_move := goodIn_r _ [221, 86, 49, 53, 87, 157, 142, 143, 5, 144, 88, 89, 90, 178, 179, 180, 181, 182, 183, 184, 123, 124, 125, 126, 95, 451, 452, 453, 454, 455, 456, 457, 458, 459, 460, 461, 462, 463, 464] (by decide +kernel) (by decide +kernel)
set_option maxRecDepth 20000 in
theorem gL_law_X4_move : GoodIn wsL_law (wsV RL 104 RX4 yX4_move wsX4_move) := goodIn_app (goodIn_of _ (by decide +kernel)) ggL_law_X4_move
set_option maxRecDepth 20000 in
theorem ggL_law_L_run : GoodIn wsL_law wsL_run := goodIn_ca (goodIn_r _ [224, 103, 225, 226, 227, 2, 228, 18, 16, 192, 193, 194, 195, 108, 109, 229, 24, 230, 231, 80, 43, 81, 232, 233, 234, 235, 42, 236, 237, 201, 238, 239, 240, 241, 242, 243, 171, 172, 173, 244, 245, 246, 247, 448, 449, 450, 465, 466, 467, 468, 469, 470, 471, 484, 485, 486, 487, 488] (by decide +kernel) (by decide +kernel)) (goodIn_sub (fun _ h => List.mem_append_right _ h) (by decide +kernel))
set_option maxRecDepth 20000 in
theorem gL_law_L_run : GoodIn wsL_law (va_wsS RL 105 yL_run wsL_run) := goodIn_app (goodIn_of _ (by decide +kernel)) ggL_law_L_run
set_option maxRecDepth 20000 in
theorem ggL_law_X4_run : GoodIn wsL_law wsX4_run := goodIn_r _ [251, 86, 49, 54, 53, 56, 50, 87, 91, 92, 93, 5, 94, 95, 252, 253, 254, 255, 51, 181, 182, 183, 184, 451, 452, 453, 454, 455, 456, 457, 458, 459, 460, 461, 462, 463, 464] (by decide +kernel) (by decide +kernel)
set_option maxRecDepth 20000 in
theorem gL_law_X4_run : GoodIn wsL_law (wsV RL 108 RX4 yX4_run wsX4_run) := goodIn_app (goodIn_of _ (by decide +kernel)) ggL_law_X4_run
set_option maxRecDepth 20000 in
theorem ggL_law_X3_week : GoodIn wsL_law wsX3_week := goodIn_r _ [259, 16, 448, 449, 450, 465, 466, 467, 468, 469, 470, 471] (by decide +kernel) (by decide +kernel)
set_option maxRecDepth 20000 in
theorem gL_law_X3_week : GoodIn wsL_law (wsV RL 109 RX3 yX3_week wsX3_week) := goodIn_app (goodIn_of _ (by decide +kernel)) ggL_law_X3_week
set_option maxRecDepth 20000 in
theorem ggL_law_X4_week : GoodIn wsL_law wsX4_week := goodIn_r _ [263, 86, 264, 265, 266, 5, 267, 95, 451, 452, 453, 454, 455, 456, 457, 458, 459, 460, 461, 462, 463, 464] (by decide +kernel) (by decide +kernel)
set_option maxRecDepth 20000 in
theorem gL_law_X4_week : GoodIn wsL_law (wsV RL 112 RX4 yX4_week wsX4_week) := goodIn_app (goodIn_of _ (by decide +kernel)) ggL_law_X4_week
set_option maxRecDepth 20000 in
theorem ggL_law_L_stock : GoodIn wsL_law wsL_stock := goodIn_ca (goodIn_r _ [270, 62, 271, 272, 273, 2, 274, 134, 135, 136, 137, 18, 67, 68, 69, 70, 71, 165, 166, 167, 484, 485, 486, 487, 488, 448, 449, 450] (by decide +kernel) (by decide +kernel)) (goodIn_sub (fun _ h => List.mem_append_left _ (List.mem_append_right _ h)) (by decide +kernel))
set_option maxRecDepth 20000 in
theorem gL_law_L_stock : GoodIn wsL_law (va_wsS RL 113 yL_stock wsL_stock) := goodIn_app (goodIn_of _ (by decide +kernel)) ggL_law_L_stock
set_option maxRecDepth 20000 in
theorem ggL_law_X4_stock : GoodIn wsL_law wsX4_stock := goodIn_r _ [278, 53, 142, 143, 5, 144, 88, 89, 90, 178, 179, 180, 91, 92, 93, 94, 95, 451, 452, 453, 454, 455, 456, 457, 458, 459, 460, 461, 462, 463, 464] (by decide +kernel) (by decide +kernel)
set_option maxRecDepth 20000 in
theorem gL_law_X4_stock : GoodIn wsL_law (wsV RL 115 RX4 yX4_stock wsX4_stock) := goodIn_app (goodIn_of _ (by decide +kernel)) ggL_law_X4_stock
set_option maxRecDepth 20000 in
theorem ggL_law_L_step : GoodIn wsL_law wsL_step := goodIn_ca (goodIn_r _ [281, 62, 282, 283, 284, 2, 285, 134, 135, 136, 137, 18, 67, 68, 69, 70, 71, 484, 485, 486, 487, 488, 448, 449, 450] (by decide +kernel) (by decide +kernel)) (goodIn_sub (fun _ h => List.mem_append_left _ (List.mem_append_right _ h)) (by decide +kernel))
set_option maxRecDepth 20000 in
theorem gL_law_L_step : GoodIn wsL_law (va_wsS RL 116 yL_step wsL_step) := goodIn_app (goodIn_of _ (by decide +kernel)) ggL_law_L_step
set_option maxRecDepth 20000 in
theorem ggL_law_X4_step : GoodIn wsL_law wsX4_step := goodIn_r _ [289, 54, 142, 143, 5, 144, 88, 89, 90, 91, 92, 93, 94, 95, 451, 452, 453, 454, 455, 456, 457, 458, 459, 460, 461, 462, 463, 464] (by decide +kernel) (by decide +kernel)
set_option maxRecDepth 20000 in
theorem gL_law_X4_step : GoodIn wsL_law (wsV RL 118 RX4 yX4_step wsX4_step) := goodIn_app (goodIn_of _ (by decide +kernel)) ggL_law_X4_step
set_option maxRecDepth 20000 in
theorem ggL_law_L_weeksToWait : GoodIn wsL_law wsL_weeksToWait := goodIn_ca (goodIn_r _ [292, 62, 293, 294, 295, 2, 296, 16, 134, 135, 136, 137, 18, 67, 68, 69, 70, 71, 196, 24, 197, 198, 44, 199, 200, 201, 202, 448, 449, 450, 465, 466, 467, 468, 469, 470, 471, 484, 485, 486, 487, 488] (by decide +kernel) (by decide +kernel)) (goodIn_sub (fun _ h => List.mem_append_left _ (List.mem_append_right _ h)) (by decide +kernel))
set_option maxRecDepth 20000 in
theorem gL_law_L_weeksToWait : GoodIn wsL_law (va_wsS RL 119 yL_weeksToWait wsL_weeksToWait) := goodIn_app (goodIn_of _ (by decide +kernel)) ggL_law_L_weeksToWait
set_option maxRecDepth 20000 in
theorem ggL_law_X4_weeksToWait : GoodIn wsL_law wsX4_weeksToWait := goodIn_r _ [300, 142, 143, 5, 144, 88, 89, 90, 91, 92, 93, 94, 95, 207, 208, 209, 210, 55, 52, 86, 451, 452, 453, 454, 455, 456, 457, 458, 459, 460, 461, 462, 463, 464] (by decide +kernel) (by decide +kernel)
set_option maxRecDepth 20000 in
theorem gL_law_X4_weeksToWait : GoodIn wsL_law (wsV RL 121 RX4 yX4_weeksToWait wsX4_weeksToWait) := goodIn_app (goodIn_of _ (by decide +kernel)) ggL_law_X4_weeksToWait
set_option maxRecDepth 20000 in
theorem ggL_law_L_sold : GoodIn wsL_law wsL_sold := goodIn_ca (goodIn_r _ [303, 62, 304, 305, 306, 2, 307, 134, 135, 136, 137, 18, 67, 68, 69, 70, 71, 484, 485, 486, 487, 488, 448, 449, 450] (by decide +kernel) (by decide +kernel)) (goodIn_sub (fun _ h => List.mem_append_left _ (List.mem_append_right _ h)) (by decide +kernel))
set_option maxRecDepth 20000 in
theorem gL_law_L_sold : GoodIn wsL_law (va_wsS RL 122 yL_sold wsL_sold) := goodIn_app (goodIn_of _ (by decide +kernel)) ggL_law_L_sold
set_option maxRecDepth 20000 in
theorem ggL_law_X4_sold : GoodIn wsL_law wsX4_sold := goodIn_r _ [311, 56, 142, 143, 5, 144, 88, 89, 90, 91, 92, 93, 94, 95, 451, 452, 453, 454, 455, 456, 457, 458, 459, 460, 461, 462, 463, 464] (by decide +kernel) (by decide +kernel)
set_option maxRecDepth 20000 in
theorem gL_law_X4_sold : GoodIn wsL_law (wsV RL 124 RX4 yX4_sold wsX4_sold) := goodIn_app (goodIn_of _ (by decide +kernel)) ggL_law_X4_sold
set_option maxRecDepth 20000 in
theorem ggL_law_X3_taken : GoodIn wsL_law wsX3_taken := goodIn_r _ [315, 16, 448, 449, 450, 465, 466, 467, 468, 469, 470, 471] (by decide +kernel) (by decide +kernel)
set_option maxRecDepth 20000 in
theorem gL_law_X3_taken : GoodIn wsL_law (wsV RL 125 RX3 yX3_taken wsX3_taken) := goodIn_app (goodIn_of _ (by decide +kernel)) ggL_law_X3_taken
set_option maxRecDepth 20000 in
theorem ggL_law_X4_taken : GoodIn wsL_law wsX4_taken := goodIn_r _ [319, 87, 264, 265, 266, 5, 267, 95, 451, 452, 453, 454, 455, 456, 457, 458, 459, 460, 461, 462, 463, 464] (by decide +kernel) (by decide +kernel)
set_option maxRecDepth 20000 in
theorem gL_law_X4_taken : GoodIn wsL_law (wsV RL 128 RX4 yX4_taken wsX4_taken) := goodIn_app (goodIn_of _ (by decide +kernel)) ggL_law_X4_taken
set_option maxRecDepth 20000 in
theorem ggL_law_L_wouldSell : GoodIn wsL_law wsL_wouldSell := goodIn_ca (goodIn_r _ [322, 62, 323, 324, 325, 2, 326, 134, 135, 136, 137, 18, 67, 68, 69, 70, 71, 110, 111, 112, 233, 24, 234, 235, 42, 236, 237, 201, 238, 239, 240, 241, 242, 43, 243, 171, 172, 173, 448, 449, 450, 484, 485, 486, 487, 488] (by decide +kernel) (by decide +kernel)) (goodIn_sub (fun _ h => List.mem_append_left _ (List.mem_append_right _ h)) (by decide +kernel))
set_option maxRecDepth 20000 in
theorem gL_law_L_wouldSell : GoodIn wsL_law (va_wsS RL 129 yL_wouldSell wsL_wouldSell) := goodIn_app (goodIn_of _ (by decide +kernel)) ggL_law_L_wouldSell
set_option maxRecDepth 20000 in
theorem ggL_law_X4_wouldSell : GoodIn wsL_law wsX4_wouldSell := goodIn_r _ [330, 142, 143, 5, 144, 88, 89, 90, 120, 121, 122, 91, 92, 93, 94, 95, 252, 253, 254, 255, 53, 51, 181, 182, 183, 184, 451, 452, 453, 454, 455, 456, 457, 458, 459, 460, 461, 462, 463, 464] (by decide +kernel) (by decide +kernel)
set_option maxRecDepth 20000 in
theorem gL_law_X4_wouldSell : GoodIn wsL_law (wsV RL 131 RX4 yX4_wouldSell wsX4_wouldSell) := goodIn_app (goodIn_of _ (by decide +kernel)) ggL_law_X4_wouldSell
set_option maxRecDepth 20000 in
theorem ggL_law_L_best : GoodIn wsL_law wsL_best := goodIn_ca (goodIn_r _ [333, 62, 334, 335, 336, 2, 337, 22, 16, 134, 135, 136, 137, 18, 67, 68, 69, 70, 71, 338, 21, 339, 340, 35, 341, 342, 343, 344, 36, 345, 346, 347, 348, 349, 237, 201, 238, 350, 351, 352, 196, 24, 197, 198, 44, 199, 200, 202, 171, 172, 173, 43, 353, 354, 355, 356, 357, 358, 359, 360, 37, 361, 362, 363, 364, 365, 366, 367, 368, 369, 370, 371, 372, 373, 374, 375, 376, 377, 378, 379, 380, 448, 449, 450, 465, 466, 467, 468, 469, 470, 471, 472, 473, 474, 475, 476, 477, 478, 479, 480, 481, 482, 483, 484, 485, 486, 487, 488] (by decide +kernel) (by decide +kernel)) (goodIn_sub (fun _ h => List.mem_append_left _ (List.mem_append_right _ h)) (by decide +kernel))
set_option maxRecDepth 20000 in
theorem gL_law_L_best : GoodIn wsL_law (va_wsS RL 132 yL_best wsL_best) := goodIn_app (goodIn_of _ (by decide +kernel)) ggL_law_L_best
set_option maxRecDepth 20000 in
theorem ggL_law_X4_best : GoodIn wsL_law wsX4_best := goodIn_r _ [384, 142, 143, 5, 144, 88, 89, 90, 91, 92, 93, 94, 95, 385, 386, 387, 388, 57, 49, 156, 86, 54, 389, 390, 391, 392, 51, 52, 50, 393, 394, 395, 207, 208, 209, 210, 55, 181, 182, 183, 184, 53, 451, 452, 453, 454, 455, 456, 457, 458, 459, 460, 461, 462, 463, 464] (by decide +kernel) (by decide +kernel)
set_option maxRecDepth 20000 in
theorem gL_law_X4_best : GoodIn wsL_law (wsV RL 134 RX4 yX4_best wsX4_best) := goodIn_app (goodIn_of _ (by decide +kernel)) ggL_law_X4_best
set_option maxRecDepth 20000 in
theorem ggL_law_L_bestByAll : GoodIn wsL_law wsL_bestByAll := goodIn_ca (goodIn_ca (goodIn_r _ [398, 62, 103, 399, 400, 401, 2, 402, 108, 109, 16, 22, 134, 135, 136, 137, 18, 67, 68, 69, 70, 71, 338, 21, 339, 340, 35, 341, 342, 343, 344, 36, 345, 346, 347, 348, 349, 237, 201, 238, 350, 351, 352, 196, 24, 197, 198, 44, 199, 200, 202, 171, 172, 173, 43, 403, 404, 405, 38, 406, 368, 407, 408, 409, 410, 411, 412, 413, 414, 448, 449, 450, 465, 466, 467, 468, 469, 470, 471, 472, 473, 474, 475, 476, 477, 478, 479, 480, 481, 482, 483, 484, 485, 486, 487, 488] (by decide +kernel) (by decide +kernel)) (goodIn_sub (fun _ h => List.mem_append_right _ h) (by decide +kernel))) (goodIn_sub (fun _ h => List.mem_append_left _ (List.mem_append_right _ h)) (by decide +kernel))
set_option maxRecDepth 20000 in
theorem gL_law_L_bestByAll : GoodIn wsL_law (va_wsS RL 135 yL_bestByAll wsL_bestByAll) := goodIn_app (goodIn_of _ (by decide +kernel)) ggL_law_L_bestByAll
set_option maxRecDepth 20000 in
theorem ggL_law_X4_bestByAll : GoodIn wsL_law wsX4_bestByAll := goodIn_r _ [418, 49, 86, 142, 143, 5, 144, 88, 89, 90, 123, 124, 125, 126, 95, 385, 386, 387, 388, 57, 156, 54, 389, 390, 391, 392, 51, 52, 50, 393, 394, 395, 207, 208, 209, 210, 55, 181, 182, 183, 184, 53, 451, 452, 453, 454, 455, 456, 457, 458, 459, 460, 461, 462, 463, 464] (by decide +kernel) (by decide +kernel)
set_option maxRecDepth 20000 in
theorem gL_law_X4_bestByAll : GoodIn wsL_law (wsV RL 137 RX4 yX4_bestByAll wsX4_bestByAll) := goodIn_app (goodIn_of _ (by decide +kernel)) ggL_law_X4_bestByAll
set_option maxRecDepth 20000 in
theorem ggL_law_L_planned : GoodIn wsL_law wsL_planned := goodIn_ca (goodIn_r _ [421, 62, 422, 423, 424, 2, 425, 16, 22, 134, 135, 136, 137, 18, 67, 68, 69, 70, 71, 338, 21, 339, 340, 35, 341, 342, 343, 344, 36, 345, 346, 347, 348, 349, 237, 201, 238, 350, 351, 352, 196, 24, 197, 198, 44, 199, 200, 202, 171, 172, 173, 43, 426, 427, 428, 356, 357, 358, 359, 360, 37, 361, 362, 363, 364, 365, 366, 367, 368, 369, 370, 371, 372, 373, 374, 375, 376, 377, 378, 379, 380, 429, 430, 431, 432, 448, 449, 450, 465, 466, 467, 468, 469, 470, 471, 472, 473, 474, 475, 476, 477, 478, 479, 480, 481, 482, 483, 484, 485, 486, 487, 488] (by decide +kernel) (by decide +kernel)) (goodIn_sub (fun _ h => List.mem_append_left _ (List.mem_append_right _ h)) (by decide +kernel))
set_option maxRecDepth 20000 in
theorem gL_law_L_planned : GoodIn wsL_law (va_wsS RL 138 yL_planned wsL_planned) := goodIn_app (goodIn_of _ (by decide +kernel)) ggL_law_L_planned
set_option maxRecDepth 20000 in
theorem ggL_law_X4_planned : GoodIn wsL_law wsX4_planned := goodIn_r _ [436, 86, 49, 54, 51, 50, 52, 142, 143, 5, 144, 88, 89, 90, 91, 92, 93, 94, 95, 385, 386, 387, 388, 57, 156, 389, 390, 391, 392, 393, 394, 395, 207, 208, 209, 210, 55, 181, 182, 183, 184, 53, 451, 452, 453, 454, 455, 456, 457, 458, 459, 460, 461, 462, 463, 464] (by decide +kernel) (by decide +kernel)
set_option maxRecDepth 20000 in
theorem gL_law_X4_planned : GoodIn wsL_law (wsV RL 140 RX4 yX4_planned wsX4_planned) := goodIn_app (goodIn_of _ (by decide +kernel)) ggL_law_X4_planned
set_option maxRecDepth 20000 in
theorem ggL_law_L_bestLeaving : GoodIn wsL_law wsL_bestLeaving := goodIn_ca (goodIn_r _ [439, 62, 440, 441, 442, 2, 443, 22, 16, 134, 135, 136, 137, 18, 67, 68, 69, 70, 71, 338, 21, 339, 340, 35, 341, 342, 343, 344, 36, 345, 346, 347, 348, 349, 237, 201, 238, 350, 351, 352, 196, 24, 197, 198, 44, 199, 200, 202, 171, 172, 173, 43, 353, 354, 355, 356, 357, 358, 359, 360, 37, 361, 362, 363, 364, 365, 366, 367, 368, 369, 370, 371, 372, 373, 374, 375, 376, 377, 378, 379, 380, 448, 449, 450, 465, 466, 467, 468, 469, 470, 471, 472, 473, 474, 475, 476, 477, 478, 479, 480, 481, 482, 483, 484, 485, 486, 487, 488] (by decide +kernel) (by decide +kernel)) (goodIn_sub (fun _ h => List.mem_append_left _ (List.mem_append_right _ h)) (by decide +kernel))
set_option maxRecDepth 20000 in
theorem gL_law_L_bestLeaving : GoodIn wsL_law (va_wsS RL 141 yL_bestLeaving wsL_bestLeaving) := goodIn_app (goodIn_of _ (by decide +kernel)) ggL_law_L_bestLeaving
set_option maxRecDepth 20000 in
theorem ggL_law_X4_bestLeaving : GoodIn wsL_law wsX4_bestLeaving := goodIn_r _ [447, 142, 143, 5, 144, 88, 89, 90, 91, 92, 93, 94, 95, 385, 386, 387, 388, 57, 49, 156, 86, 54, 389, 390, 391, 392, 51, 52, 50, 393, 394, 395, 207, 208, 209, 210, 55, 181, 182, 183, 184, 53, 451, 452, 453, 454, 455, 456, 457, 458, 459, 460, 461, 462, 463, 464] (by decide +kernel) (by decide +kernel)
set_option maxRecDepth 20000 in
theorem gL_law_X4_bestLeaving : GoodIn wsL_law (wsV RL 143 RX4 yX4_bestLeaving wsX4_bestLeaving) := goodIn_app (goodIn_of _ (by decide +kernel)) ggL_law_X4_bestLeaving
abbrev vwCl : List vw_C := [(RX0, TX0, 12), (RX1, TX1, 7), (RX2, TX2, 5), (RX3, TX3, 3), (RX4, TX4, 14)]
end
section
/-! ints: every int of the walk is zI of a whole number -/
def zI (a : Int) : Int32 := Int32.ofInt a
abbrev zB (a : Int) : Prop := -2147483648 ≤ a ∧ a < 2147483648
theorem zI_toInt {a : Int} (h : zB a) : (zI a).toInt = a := Int32.toInt_ofInt_of_le (by have := h.1; omega) (by have := h.2; omega)
theorem zI_of (x : Int32) : zI x.toInt = x := Int32.ofInt_toInt x
theorem zB_of (x : Int32) : zB x.toInt := ⟨by have := x.le_toInt; omega, by have := x.toInt_lt; omega⟩
theorem zI_add (a b : Int) : zI a + zI b = zI (a + b) := (Int32.ofInt_add a b).symm
theorem zI_sub (a b : Int) : zI a - zI b = zI (a - b) := (Int32.ofInt_sub a b).symm
theorem zI_mul (a b : Int) : zI a * zI b = zI (a * b) := (Int32.ofInt_mul a b).symm
theorem zI_lt {a b : Int} (ha : zB a) (hb : zB b) : zI a < zI b ↔ a < b := by rw [Int32.lt_iff_toInt_lt, zI_toInt ha, zI_toInt hb]
theorem zI_le {a b : Int} (ha : zB a) (hb : zB b) : zI a ≤ zI b ↔ a ≤ b := by rw [Int32.le_iff_toInt_le, zI_toInt ha, zI_toInt hb]
theorem zI_eq {a b : Int} (ha : zB a) (hb : zB b) : zI a = zI b ↔ a = b := ⟨fun h => by
  have h2 := congrArg Int32.toInt h
  rwa [zI_toInt ha, zI_toInt hb] at h2, fun h => by rw [h]⟩
theorem zI_cl {a : Int} (h1 : 0 ≤ a) (h2 : a < 2147483648) : (zI a).toNatClampNeg = a.toNat := by
  show (zI a).toInt.toNat = a.toNat
  rw [zI_toInt ⟨by omega, h2⟩]
theorem zI_in {a : Int} {n : Nat} (h0 : 0 ≤ a) (h1 : a < n) (hn : n ≤ 2147483648) : vp_in (zI a) n := by
  refine vp_in_iff.mpr ?_
  rw [zI_toInt ⟨by omega, by omega⟩]
  exact ⟨h0, h1⟩
theorem zI_div {a b : Int} (ha : 0 ≤ a) (ha2 : a < 2147483648) (hb : 0 < b) (hb2 : b < 2147483648) : zI a / zI b = zI (a / b) := by
  have e1 : (zI a).toInt = a := zI_toInt ⟨by omega, ha2⟩
  have e2 : (zI b).toInt = b := zI_toInt ⟨by omega, hb2⟩
  have hb9 : zI b ≠ -1 := fun h => by
    have h2 := congrArg Int32.toInt h
    rw [e2] at h2
    have h3 : (-1 : Int32).toInt = -1 := by decide
    omega
  have q0 : 0 ≤ a / b := Int.ediv_nonneg ha (by omega)
  have q1 : a / b ≤ a := Int.ediv_le_self b ha
  refine Int32.toInt_inj.mp ?_
  rw [Int32.toInt_div_of_ne_right _ _ hb9, e1, e2, zI_toInt ⟨by omega, by omega⟩, Int.tdiv_eq_ediv_of_nonneg ha]
theorem zI_rem {a b : Int} (ha : 0 ≤ a) (ha2 : a < 2147483648) (hb : 0 < b) (hb2 : b < 2147483648) : zI a - zI a / zI b * zI b = zI (a % b) := by
  rw [zI_div ha ha2 hb hb2, zI_mul, zI_sub, Int.emod_def, Int.mul_comm]
theorem zI_ne0 {b : Int} (hb : 0 < b) (hb2 : b < 2147483648) : ¬ zI b = 0 := fun h => by
  have h2 : zI b = zI 0 := h
  rw [zI_eq ⟨by omega, hb2⟩ ⟨by omega, by omega⟩] at h2
  omega
theorem zI_max {a b : Int} (ha : zB a) (hb : zB b) : (if zI a < zI b then zI b else zI a) = zI (max a b) := by
  by_cases h : a < b
  · rw [if_pos ((zI_lt ha hb).mpr h)]; congr 1; omega
  · rw [if_neg (fun q => h ((zI_lt ha hb).mp q))]; congr 1; omega
theorem zI_min {a b : Int} (ha : zB a) (hb : zB b) : (if zI b < zI a then zI b else zI a) = zI (min a b) := by
  by_cases h : b < a
  · rw [if_pos ((zI_lt hb ha).mpr h)]; congr 1; omega
  · rw [if_neg (fun q => h ((zI_lt hb ha).mp q))]; congr 1; omega
/-! cells: an int row f of n places, an object of kind k -/
abbrev iv (a : Int) : Value := .int (zI a)
abbrev ar (cI : ClassId) (n : Nat) (f : Int → Int) : va_E := .inl (cI, n, .inl (fun j => zI (f ((j : Nat) : Int))))
abbrev ob (k : Nat) (fs : List Value) : va_E := .inr (k, fs)
def ui (f : Int → Int) (i v : Int) : Int → Int := fun j => if j = i then v else f j
theorem ui_s {f : Int → Int} {i v : Int} : ui f i v i = v := if_pos rfl
theorem ui_n {f : Int → Int} {i v j : Int} (h : j ≠ i) : ui f i v j = f j := if_neg h
theorem ui_eq {f : Int → Int} {i v : Int} (h0 : 0 ≤ i) (h1 : i < 2147483648) : upd (fun j => zI (f ((j : Nat) : Int))) (zI i).toNatClampNeg (zI v) = fun j => zI (ui f i v ((j : Nat) : Int)) := by
  funext j
  rw [zI_cl h0 h1]
  unfold upd ui
  by_cases hj : j = i.toNat
  · rw [if_pos hj, if_pos (by omega)]
  · rw [if_neg hj, if_neg (by omega)]
theorem ar_congr {cI : ClassId} {n : Nat} {f g : Int → Int} (h : ∀ j : Int, 0 ≤ j → j < n → f j = g j) : vp_cell cI (n, .inl (fun j => zI (f ((j : Nat) : Int)))) = vp_cell cI (n, .inl (fun j => zI (g ((j : Nat) : Int)))) := by
  simp only [vp_cell_i, arrV]
  congr 1
  refine congrArg _ ?_
  funext j
  exact congrArg Value.int (congrArg zI (h _ (Int.natCast_nonneg _) (by have := j.isLt; omega)))
/-- two worlds that hold the same: cell by cell, rows up to their length -/
def ce_eq (D : va_G) (cl : List vw_C) (p q : Nat × va_E) : Prop := p.1 = q.1 ∧ ∀ H : Heap, va_at D cl p H → va_at D cl q H
theorem ce_rf {D : va_G} {cl : List vw_C} {p : Nat × va_E} : ce_eq D cl p p := ⟨rfl, fun _ h => h⟩
theorem ce_ar {D : va_G} {cl : List vw_C} {a : Nat} {cI : ClassId} {n : Nat} {f g : Int → Int} (h : ∀ j : Int, 0 ≤ j → j < n → f j = g j) : ce_eq D cl (a, ar cI n f) (a, ar cI n g) := ⟨rfl, fun H h1 => by
  have h2 : H[a]? = some (vp_cell cI (n, .inl (fun j => zI (f ((j : Nat) : Int))))) := h1
  rw [ar_congr h] at h2
  exact h2⟩
theorem ce_of {D : va_G} {cl : List vw_C} {a : Nat} {e e2 : va_E} (h : e = e2) : ce_eq D cl (a, e) (a, e2) := by rw [h]; exact ce_rf
def WE (D : va_G) (cl : List vw_C) : va_W → va_W → Prop
  | [], [] => True
  | p :: ws, q :: ws' => ce_eq D cl p q ∧ WE D cl ws ws'
  | _, _ => False
theorem WE.get {D : va_G} {cl : List vw_C} : ∀ {ws ws' : va_W}, WE D cl ws ws' → ∀ (k : Nat) (q : Nat × va_E), ws'[k]? = some q → ∃ p, ws[k]? = some p ∧ ce_eq D cl p q
  | [], [], _, k, q, hk => by simp at hk
  | p :: ws, q' :: ws', h, 0, q, hk => ⟨p, rfl, by
    have e : q' = q := Option.some.inj hk
    rw [← e]; exact h.1⟩
  | p :: ws, q' :: ws', h, k + 1, q, hk => by
    obtain ⟨p9, h1, h2⟩ := WE.get h.2 k q (by simpa using hk)
    exact ⟨p9, by simpa using h1, h2⟩
  | [], _ :: _, h, _, _, _ => h.elim
  | _ :: _, [], h, _, _, _ => h.elim
theorem WE.P {D : va_G} {cl : List vw_C} {ws ws' : va_W} {H : Heap} (h : WE D cl ws ws') (hP : va_P D cl ws H) : va_P D cl ws' H := fun k q hk => by
  obtain ⟨p, h1, h2⟩ := h.get k q hk
  exact h2.2 H (hP k p h1)
theorem WE.D {D : va_G} {cl : List vw_C} {A : Nat → Prop} {ws ws' : va_W} (h : WE D cl ws ws') (hD : va_D A ws) : va_D A ws' := by
  refine ⟨fun i j p q hi hj hpq => ?_, fun k q hk => ?_⟩
  · obtain ⟨p1, a1, b1⟩ := h.get i p hi
    obtain ⟨p2, a2, b2⟩ := h.get j q hj
    exact hD.1 i j p1 p2 a1 a2 (b1.1.trans (hpq.trans b2.1.symm))
  · obtain ⟨p1, a1, b1⟩ := h.get k q hk
    rw [← b1.1]
    exact hD.2 k p1 a1
/-! what a launch's tables say beside a method's own words -/
def evL : List Cond := [.fieldLinkNest RX0 24 RX1 "prices" "[I" RX3, .fieldLinkNest RX3 58 RX1 "prices" "[I" RX3, .fieldLinkNest RX0 43 RX1 "weeks" "I" RX3, .fieldLinkNest RX3 133 RX1 "weeks" "I" RX3, .fieldLinkNest RX3 34 RX1 "week" "I" RX3, .fieldLinkNest RX0 36 RX1 "week" "I" RX3, .fieldLinkNest RX0 49 RX1 "gap" "I" RX3, .fieldLinkNest RX3 69 RX1 "gap" "I" RX3, .fieldLinkNest RX0 53 RX1 "remnant" "I" RX3, .fieldLinkNest RX3 72 RX1 "remnant" "I" RX3, .fieldLinkNest RX3 75 RX1 "moving" "I" RX3, .fieldLinkNest RX3 112 RX1 "taken" "I" RX3, .fieldLinkNest RX0 33 RX2 "demands" "[I" RX3, .fieldLinkNest RX3 66 RX2 "demands" "[I" RX3, .fieldLinkNest RX3 85 RX2 "pieces" "[I" RX3, .fieldLinkNest RX0 69 RX2 "step" "I" RX3, .fieldLinkNest RX3 91 RX2 "step" "I" RX3, .fieldLinkNest RX3 102 RX2 "markedDownIn" "I" RX3, .fieldLinkNest RX3 119 RX2 "piecesSold" "I" RX3, .methodLinkNest RX3 11 yX1_init RX3, .methodLinkNest RX3 24 yX0_init RX3, .methodLinkNest RX3 29 yX2_init RX3, .methodLinkNest RX3 38 yX1_startAnew RX3, .methodLinkNest RX3 42 yX2_startAnew RX3, .methodLinkNest RX3 47 yX1_keepsLadderDown RX3, .methodLinkNest RX3 146 yX2_wholeStock RX3, .methodLinkNest RX3 96 yX2_waitFrom RX3, .methodLinkNest RX3 115 yX2_sellForAWeek RX3, .methodLinkNest RX3 122 yX2_salesAt RX3, .methodLinkNest RX3 126 yX0_lookAt RX3, .methodLinkNest RX0 57 yX2_waitFrom RX3, .methodLinkNest RX0 75 yX2_wholeStock RX3, .methodLinkNest RX3 130 yX0_greatestWorth RX3, .methodLinkNest RX3 138 yX0_greatestWorthByAll RX3, .methodLinkNest RX3 141 yX0_bestStepIn RX3, .declares (Bundle.initS "java/lang/RuntimeException"), .declares (Bundle.initS "java/lang/Exception"), .declares (Bundle.initS Bundle.tN), .castable "java/lang/IllegalArgumentException" "java/lang/IllegalArgumentException", .castable "java/lang/IllegalStateException" "java/lang/IllegalStateException"]
def evS : List (Nat × String) := [(144, "out of range"), (53, "prices only go down from step to step"), (149, "the store has no room for so many pieces"), (151, "the season is over"), (94, "the step is not above that of the store"), (100, "the gap has not gone by"), (107, "the stores are the same"), (110, "there are not so many pieces"), (136, "too many weeks are left")]
abbrev xIA : String := "java/lang/IllegalArgumentException"
abbrev xIS : String := "java/lang/IllegalStateException"
def evOk : Cond → Bool
  | .fieldLinkNest .. | .methodLinkNest .. | .declares _ | .castable .. => true
  | _ => false
theorem evL_ok : ∀ w ∈ evL, evOk w = true := by decide +kernel
theorem evw_tab {w : Cond} (h : evOk w = true) : w.onTables = true := by cases w <;> first | rfl | (simp [evOk] at h)
theorem evw_warm {w : Cond} (h : evOk w = true) {s U : State} (hW : s.WarmedH U.vm) (hZ : va_Nw w s) : va_Nw w U := by
  cases w <;> first | exact va_Nw.warmF hW hZ | exact va_Nw.warmM hW hZ | exact va_Nw.warmD hW hZ | exact va_Nw.warmC hW hZ | (simp [evOk] at h)
/-- the tables' words that a method's own list doesn't hold; the texts; which class is not below which -/
def ev (U : State) : Prop := (∀ w ∈ evL, va_Nw w U) ∧ (∀ q ∈ evS, ∃ a, vk_R RX3 q.1 q.2 a U) ∧ va_Nc xIS xIA U
theorem ev.moved {s U : State} (hW : s.WarmedH U.vm) (h : ev s) : ev U := ⟨fun w hw => evw_warm (evL_ok w hw) hW (h.1 w hw), fun q hq => by
  obtain ⟨a, ha⟩ := h.2.1 q hq
  exact ⟨a, vk_R.warm hW ha⟩, va_Nc.moved hW.alike h.2.2⟩
theorem ev.same {s U : State} (hv : U.vm = s.vm) (h : ev s) : ev U := ⟨fun w hw => va_Nw.same (evw_tab (evL_ok w hw)) hv.symm (h.1 w hw), fun q hq => by
  obtain ⟨a, ha⟩ := h.2.1 q hq
  exact ⟨a, vk_R.same hv ha⟩, va_Nc.moved (by rw [hv]; exact Vm.Alike.refl _) h.2.2⟩
theorem ev.nw {s : State} (h : ev s) (i : Nat) {w : Cond} (hi : evL[i]? = some w) : va_Nw w s := h.1 w (List.mem_of_getElem? hi)
theorem ev.at {s : State} {args : Array Value} (h : ev s) (i : Nat) {w : Cond} (hi : evL[i]? = some w) : w.before args s = true := va_Nw.use (evw_tab (evL_ok w (List.mem_of_getElem? hi))) (h.nw i hi)
theorem ev.tx {s : State} (h : ev s) (i : Nat) {q : Nat × String} (hi : evS[i]? = some q) : ∃ a, vk_R RX3 q.1 q.2 a s := h.2.1 q (List.mem_of_getElem? hi)
/-- the two statics of Throwable, outside A -/
def Zs (A : Nat → Prop) (U : State) (H : Heap) : Prop := vx_Zq Bundle.tN "UNASSIGNED_STACK" Bundle.steD A U H ∧ vx_Zq Bundle.tN "SUPPRESSED_SENTINEL" Bundle.listD A U H
theorem Zs.moved {A : Nat → Prop} {u U : State} {H : Heap} (hvm : u.vm.Alike U.vm) (h : Zs A u H) : Zs A U H := ⟨vx_Zq.moved hvm h.1, vx_Zq.moved hvm h.2⟩
theorem Zs.kept {A : Nat → Prop} {U : State} {H H1 : Heap} (h : Zs A U H) (hq : ∀ a : Nat, a < H.size → ¬ A a → H1[a]? = H[a]?) : Zs A U H1 := ⟨vx_Zq.kept h.1 hq, vx_Zq.kept h.2 hq⟩
theorem Zs.narrow {A B : Nat → Prop} {U : State} {H : Heap} (h : Zs A U H) (hAB : ∀ q, B q → A q) : Zs B U H := ⟨vx_Zq.narrow h.1 hAB, vx_Zq.narrow h.2 hAB⟩
/-! contracts -/
abbrev tyL (cI cS cJ : ClassId) : List (ClassId × FieldType) := [(cI, .int), (cS, .object "MarkdownPlanner$Store"), (cJ, .long)]
/-- a start: the world w stands, the heap may be any -/
def pcP (as : List Value) (D : va_G) (tys : List (ClassId × FieldType)) (w : va_W) : Array Value → State → Prop := va_Pc as (fun U => ev U ∧ va_P D vwCl w U.heap ∧ va_K D vwCl tys U)
def pcM (sz : Nat) (as : List Value) (D : va_G) (tys : List (ClassId × FieldType)) (w : va_W) : Array Value → State → Prop := va_Pc as (fun U => U.heap.size = sz ∧ ev U ∧ va_P D vwCl w U.heap ∧ va_K D vwCl tys U ∧ va_D (fun _ => True) w)
def pcT (as : List Value) (D : va_G) (tys : List (ClassId × FieldType)) (w : va_W) : Array Value → State → Prop := va_Pc as (fun U => ev U ∧ va_P D vwCl w U.heap ∧ va_K D vwCl tys U ∧ Zs (fun q => U.heap.size ≤ q) U U.heap)
def pcX (sz : Nat) (as : List Value) (D : va_G) (tys : List (ClassId × FieldType)) (w : va_W) : Array Value → State → Prop := va_Pc as (fun U => U.heap.size = sz ∧ ev U ∧ va_P D vwCl w U.heap ∧ va_K D vwCl tys U ∧ va_D (fun _ => True) w ∧ Zs (fun q => U.heap.size ≤ q) U U.heap)
/-- ends -/
def qcM (D : va_G) (A : Nat → Prop) (Qr : Option Value → va_W → Prop) : Array Value → State → Outcome → State → Prop := fun _ st oc t => ∃ (r : Option Value) (w' : va_W), oc = .returned r ∧ Qr r w' ∧ va_P D vwCl w' t.heap ∧ va_D A w' ∧ va_F A st t
def qcT (Qr : Option Value → Prop) : Array Value → State → Outcome → State → Prop := fun _ st oc t => ∃ r : Option Value, oc = .returned r ∧ Qr r ∧ t.heap = st.heap
def xcT (TX : String → Prop) : String → State → State → Prop := fun E st t => TX E ∧ st.heap.size ≤ t.heap.size ∧ ∀ q : Nat, q < st.heap.size → t.heap[q]? = st.heap[q]?
/-- reads only, answers v -/
abbrev cP (l : Launch) (y : MethodName) (ws : List Cond) (rm : Room) (as : List Value) (D : va_G) (tys : List (ClassId × FieldType)) (w : va_W) (v : Int32) : Prop := Met l y ws rm (pcP as D tys w) (vp_Si (fun r => r = v)) 0 0 (fun _ => False)
/-- changes its world -/
abbrev cM (l : Launch) (y : MethodName) (ws : List Cond) (rm : Room) (as : List Value) (D : va_G) (tys : List (ClassId × FieldType)) (w : va_W) (Qr : Option Value → va_W → Prop) (mc ms : Nat) : Prop := ∀ sz : Nat, Met l y ws rm (pcM sz as D tys w) (qcM D (va_A w sz) Qr) mc ms (va_A w sz)
/-- reads only, or throws -/
abbrev cT (l : Launch) (y : MethodName) (ws : List Cond) (rm : Room) (as : List Value) (D : va_G) (tys : List (ClassId × FieldType)) (w : va_W) (Qr : Option Value → Prop) (TX : String → Prop) (mc ms : Nat) : Prop := vx_Met l y ws rm (pcT as D tys w) (qcT Qr) (xcT TX) mc ms (fun _ => False)
/-- changes its world, or throws with nothing changed -/
abbrev cX (l : Launch) (y : MethodName) (ws : List Cond) (rm : Room) (as : List Value) (D : va_G) (tys : List (ClassId × FieldType)) (w : va_W) (Qr : Option Value → va_W → Prop) (TX : String → Prop) (mc ms : Nat) : Prop := ∀ sz : Nat, vx_Met l y ws rm (pcX sz as D tys w) (qcM D (va_A w sz) Qr) (xcT TX) mc ms (va_A w sz)
/-! what a body has -/
def Hx (p : Program) (s : State) (m : MethodId) (args : Array Value) (meth : Method) (c : Code) (cc : ByteArray) (ret : Option FieldType) (maxL : Nat) (ws : List Cond) (own nm : String) : Prop :=
  p.tables.exec = Jvm.exec ∧ c.code = cc ∧ meth.sig.returnType = ret ∧ c.maxLocals = maxL ∧ (∀ w ∈ ws, w.before args s = true) ∧ s.vm.findClass own = some m.cls ∧ meth.locks = false ∧ meth.name = nm
theorem hx_of {p : Program} {l : Launch} {y : MethodName} {ws : List Cond} {rm : Room} {cc : ByteArray} {maxL : Nat} {ret : Option FieldType} {e : Env} {s : State} {m : MethodId} {args : Array Value} {below : List Frame} {meth : Method} {c : Code} {s₁ : State} (B : BodyLoose p l y (headSpec ws rm) cc maxL ret e s m args below meth c s₁) (hml : c.maxLocals = maxL) : Hx p s m args meth c cc ret maxL ws y.cls y.name :=
  ⟨B.exec, B.bytes, B.returns, hml, atoms_spec (ws := ws) B.pre, findClass_of_methodNamed B.named, B.notSynchronized, (name_of_methodNamed B.named B.method).1⟩
theorem en_fr {p : Program} {l : Launch} {e : Env} {R : Room} {s : State} {m : MethodId} {args : Array Value} {below : List Frame} {meth : Method} {c : Code} {H : Heap} {locs : List Loc} {cells slots : Nat} {Q : State → Prop} {as : List Value} {maxL : Nat} (hlen : (lg_sl as).length ≤ maxL)
    (k : ∀ ls : Array Slot, lv_has ls maxL (lv_args 0 as) → W p l e R s m args below meth c H locs cells slots Q (F0 m 0 ls [])) : W p l e R s m args below meth c H locs cells slots Q (entryFrame m as.toArray maxL) := by
  have hl := lv_entry as (n := maxL) hlen
  rw [lg_entry_eq]
  exact k _ hl
theorem en_P {l : Launch} {y : MethodName} {ws ws' : List Cond} {rm : Room} {cc : ByteArray} {maxL : Nat} {ret : Option FieldType} {as : List Value} {D : va_G} {tys : List (ClassId × FieldType)} {w : va_W} {v : Int32}
    (hy : plainName y.cls = true) (hw : ws = Cond.code y cc maxL ret :: ws') (hlen : (lg_sl as).length ≤ maxL)
    (body : ∀ (p : Program) (e : Env) (s : State) (m : MethodId) (args : Array Value) (below : List Frame) (meth : Method) (c : Code) (ls : Array Slot), Hx p s m args meth c cc ret maxL ws y.cls y.name → ev s → va_P D vwCl w s.heap → va_K D vwCl tys s → lv_has ls maxL (lv_args 0 as) →
      W p l e rm s m args below meth c s.heap [] 0 0 (MQ below (vp_Si (fun r => r = v)) args s 0 0 (fun _ => False)) (F0 m 0 ls [])) : cP l y ws rm as D tys w v := by
  refine Met.ofW (cc := cc) (maxL := maxL) (ret := ret) hy hw ?_
  intro p e s m args below meth c s₁ B hml hv
  obtain ⟨ha, hE, hP, hK⟩ := hv
  have hX := hx_of B hml
  rw [ha] at hX ⊢
  exact en_fr hlen (fun ls hl => body p e s m _ below meth c ls hX hE hP hK hl)
theorem en_M {l : Launch} {y : MethodName} {ws ws' : List Cond} {rm : Room} {cc : ByteArray} {maxL mc ms : Nat} {ret : Option FieldType} {as : List Value} {D : va_G} {tys : List (ClassId × FieldType)} {w : va_W} {Qr : Option Value → va_W → Prop}
    (hy : plainName y.cls = true) (hw : ws = Cond.code y cc maxL ret :: ws') (hlen : (lg_sl as).length ≤ maxL)
    (body : ∀ (p : Program) (e : Env) (s : State) (m : MethodId) (args : Array Value) (below : List Frame) (meth : Method) (c : Code) (ls : Array Slot) (A : Nat → Prop), Hx p s m args meth c cc ret maxL ws y.cls y.name → ev s → va_P D vwCl w s.heap → va_K D vwCl tys s → va_D A w → va_S A s.heap s.heap [] → (∀ q, s.heap.size ≤ q → A q) → lv_has ls maxL (lv_args 0 as) →
      W p l e rm s m args below meth c s.heap [] 0 0 (MQ below (qcM D A Qr) args s mc ms A) (F0 m 0 ls [])) : cM l y ws rm as D tys w Qr mc ms := by
  intro sz
  refine Met.ofW (cc := cc) (maxL := maxL) (ret := ret) hy hw ?_
  intro p e s m args below meth c s₁ B hml hv
  obtain ⟨ha, hsz, hE, hP, hK, hD⟩ := hv
  have hX := hx_of B hml
  rw [ha] at hX ⊢
  exact en_fr hlen (fun ls hl => body p e s m _ below meth c ls _ hX hE hP hK hD.self va_S.rf (fun q h => Or.inr (by rw [← hsz]; exact h)) hl)
theorem en_T {l : Launch} {y : MethodName} {ws ws' : List Cond} {rm : Room} {cc : ByteArray} {maxL mc ms : Nat} {ret : Option FieldType} {as : List Value} {D : va_G} {tys : List (ClassId × FieldType)} {w : va_W} {Qr : Option Value → Prop} {TX : String → Prop}
    (hy : plainName y.cls = true) (hw : ws = Cond.code y cc maxL ret :: ws') (hlen : (lg_sl as).length ≤ maxL)
    (body : ∀ (p : Program) (e : Env) (s : State) (m : MethodId) (args : Array Value) (below : List Frame) (meth : Method) (c : Code) (ls : Array Slot), Hx p s m args meth c cc ret maxL ws y.cls y.name → ev s → va_P D vwCl w s.heap → va_K D vwCl tys s → Zs (fun q => s.heap.size ≤ q) s s.heap → (∀ x ∈ c.exceptionTable.toList, False) → lv_has ls maxL (lv_args 0 as) →
      W p l e rm s m args below meth c s.heap [] 0 0 (vx_MQ below (qcT Qr) (xcT TX) args s mc ms (fun _ => False)) (F0 m 0 ls [])) : cT l y ws rm as D tys w Qr TX mc ms := by
  refine vx_ofW (cc := cc) (maxL := maxL) (ret := ret) hy hw ?_
  intro p e s m args below meth c s₁ B hml ht hv
  obtain ⟨ha, hE, hP, hK, hZ⟩ := hv
  have hX := hx_of B hml
  rw [ha] at hX ⊢
  exact en_fr hlen (fun ls hl => body p e s m _ below meth c ls hX hE hP hK hZ ht hl)
theorem en_X {l : Launch} {y : MethodName} {ws ws' : List Cond} {rm : Room} {cc : ByteArray} {maxL mc ms : Nat} {ret : Option FieldType} {as : List Value} {D : va_G} {tys : List (ClassId × FieldType)} {w : va_W} {Qr : Option Value → va_W → Prop} {TX : String → Prop}
    (hy : plainName y.cls = true) (hw : ws = Cond.code y cc maxL ret :: ws') (hlen : (lg_sl as).length ≤ maxL)
    (body : ∀ (p : Program) (e : Env) (s : State) (m : MethodId) (args : Array Value) (below : List Frame) (meth : Method) (c : Code) (ls : Array Slot) (A : Nat → Prop), Hx p s m args meth c cc ret maxL ws y.cls y.name → ev s → va_P D vwCl w s.heap → va_K D vwCl tys s → va_D A w → va_S A s.heap s.heap [] → (∀ q, s.heap.size ≤ q → A q) → Zs (fun q => s.heap.size ≤ q) s s.heap → (∀ x ∈ c.exceptionTable.toList, False) → lv_has ls maxL (lv_args 0 as) →
      W p l e rm s m args below meth c s.heap [] 0 0 (vx_MQ below (qcM D A Qr) (xcT TX) args s mc ms A) (F0 m 0 ls [])) : cX l y ws rm as D tys w Qr TX mc ms := by
  intro sz
  refine vx_ofW (cc := cc) (maxL := maxL) (ret := ret) hy hw ?_
  intro p e s m args below meth c s₁ B hml ht hv
  obtain ⟨ha, hsz, hE, hP, hK, hD, hZ⟩ := hv
  have hX := hx_of B hml
  rw [ha] at hX ⊢
  exact en_fr hlen (fun ls hl => body p e s m _ below meth c ls _ hX hE hP hK hD.self va_S.rf (fun q h => Or.inr (by rw [← hsz]; exact h)) hZ ht hl)
end
section
/-! calls -/
theorem pcP_fb {as : List Value} {D : va_G} {tys : List (ClassId × FieldType)} {w : va_W} : FrameBlind (pcP as D tys w) := fun a U g mk h => ⟨h.1, ev.same (s := U) rfl h.2.1, h.2.2.1, va_K.moved (u := U) (U := U.calling g mk a) (Vm.Alike.refl U.vm) h.2.2.2⟩
theorem pcM_fb {sz : Nat} {as : List Value} {D : va_G} {tys : List (ClassId × FieldType)} {w : va_W} : FrameBlind (pcM sz as D tys w) := fun a U g mk h => ⟨h.1, h.2.1, ev.same (s := U) rfl h.2.2.1, h.2.2.2.1, va_K.moved (u := U) (U := U.calling g mk a) (Vm.Alike.refl U.vm) h.2.2.2.2.1, h.2.2.2.2.2⟩
theorem pcT_fb {as : List Value} {D : va_G} {tys : List (ClassId × FieldType)} {w : va_W} : FrameBlind (pcT as D tys w) := fun a U g mk h => ⟨h.1, ev.same (s := U) rfl h.2.1, h.2.2.1, va_K.moved (u := U) (U := U.calling g mk a) (Vm.Alike.refl U.vm) h.2.2.2.1, Zs.moved (u := U) (U := U.calling g mk a) (Vm.Alike.refl U.vm) h.2.2.2.2⟩
theorem pcX_fb {sz : Nat} {as : List Value} {D : va_G} {tys : List (ClassId × FieldType)} {w : va_W} : FrameBlind (pcX sz as D tys w) := fun a U g mk h => ⟨h.1, h.2.1, ev.same (s := U) rfl h.2.2.1, h.2.2.2.1, va_K.moved (u := U) (U := U.calling g mk a) (Vm.Alike.refl U.vm) h.2.2.2.2.1, h.2.2.2.2.2.1, Zs.moved (u := U) (U := U.calling g mk a) (Vm.Alike.refl U.vm) h.2.2.2.2.2.2⟩
section MSA
variable {s : State} {H : Heap} {D : va_G} {tys : List (ClassId × FieldType)} {w : va_W} {As : List Value} {A : Nat → Prop}
theorem pcP_S (hE : ev s) (hK : va_K D vwCl tys s) (hP : va_P D vwCl w H) : PreS s H (pcP As D tys w) As := ⟨pcP_fb, fun U hU hW => ⟨rfl, ev.moved hW hE, by rw [hU]; exact hP, va_K.moved hW.alike hK⟩⟩
theorem pcM_S (hE : ev s) (hK : va_K D vwCl tys s) (hP : va_P D vwCl w H) (hD : va_D A w) : PreS s H (pcM H.size As D tys w) As := ⟨pcM_fb, fun U hU hW => ⟨rfl, by rw [hU], ev.moved hW hE, by rw [hU]; exact hP, va_K.moved hW.alike hK, hD.weaken (fun _ _ _ _ => trivial)⟩⟩
theorem pcT_S (hE : ev s) (hK : va_K D vwCl tys s) (hP : va_P D vwCl w H) (hZ : Zs (fun q => H.size ≤ q) s H) : PreS s H (pcT As D tys w) As := ⟨pcT_fb, fun U hU hW => ⟨rfl, ev.moved hW hE, by rw [hU]; exact hP, va_K.moved hW.alike hK, by rw [hU]; exact Zs.moved hW.alike hZ⟩⟩
theorem pcX_S (hE : ev s) (hK : va_K D vwCl tys s) (hP : va_P D vwCl w H) (hD : va_D A w) (hZ : Zs (fun q => H.size ≤ q) s H) : PreS s H (pcX H.size As D tys w) As := ⟨pcX_fb, fun U hU hW => ⟨rfl, by rw [hU], ev.moved hW hE, by rw [hU]; exact hP, va_K.moved hW.alike hK, hD.weaken (fun _ _ _ _ => trivial), by rw [hU]; exact Zs.moved hW.alike hZ⟩⟩
theorem pc_V {b ci q0 : Nat} {q : vw_C} {fs : List Value} {Pc : Array Value → State → Prop} (hK : va_K D vwCl tys s) (hP : va_P D vwCl w H) (hc : vwCl[ci]? = some q) (he : w[q0]? = some (b, .inr (ci, fs))) (h : PreS s H Pc (.ref b :: As)) : PreV s H q.1 b Pc As := ⟨h.1, va_recv hK hP hc he, h.2⟩
end MSA
section MSB
variable {p : Program} {l : Launch} {e : Env} {R : Room} {s : State} {m : MethodId} {args : Array Value} {below : List Frame} {meth : Method} {c : Code} {H : Heap} {locs : List Loc} {cells slots : Nat} {Q : State → Prop}
variable {pc : Nat} {ls : Array Slot} {rest st0 : List Value} {a : Array Value} {A0 A1 : Nat → Prop} {H0 : Heap} {mc ms : Nat} {free : Addr → Prop}
theorem ms_P {v : Int32} (hr : va_Run p l e R s m args below meth c H locs cells slots 0 0 (F0 m pc ls st0) rest (vp_Si (fun r => r = v) a) (fun _ => False))
    (kk : W p l e R s m args below meth c H locs cells slots Q (F0 m (pc + 3) ls (.int v :: rest))) : W p l e R s m args below meth c H locs cells slots Q (F0 m pc ls st0) := by
  intro T hT X
  obtain ⟨v9, st₀, t, T', L, h0, X', hL, e1, e2, ⟨r, hv, hp, hh⟩, st⟩ := hr T hT X
  cases hv
  subst hp
  obtain ⟨t2, a1, b1⟩ := kk T' (by rw [e1, hh, h0]) (Stand.forget X' (fun q h => (hL q h).elim))
  exact ⟨t2, st t2 a1, b1⟩
theorem ms_M {D : va_G} {w wc : va_W} {Qr : Option Value → va_W → Prop} (hr : va_Run p l e R s m args below meth c H locs cells slots mc ms (F0 m pc ls st0) rest (qcM D (va_A wc H.size) Qr a) (va_A wc H.size))
    (hP : va_P D vwCl w H) (hD : va_D A0 w) (hS : va_S A0 H0 H locs) (hA : ∀ q, H0.size ≤ q → A0 q) (isC isR : List Nat) {wr : va_W} (hC : isC.map (fun i => w[i]?) = wc.map some) (hR : isR.map (fun i => w[i]?) = wr.map some) (hn : va_nd isR = true) (hdis : ∀ i ∈ isR, i ∉ isC)
    (kk : ∀ (r : Option Value) (w' : va_W) (H1 : Heap) (locs1 : List Loc), Qr r w' → va_P D vwCl (wr ++ w') H1 → va_D A0 (wr ++ w') → va_S A0 H0 H1 locs1 → W p l e R s m args below meth c H1 locs1 (cells + mc) (slots + ms) Q (F0 m (pc + 3) ls (r.toList ++ rest))) : W p l e R s m args below meth c H locs cells slots Q (F0 m pc ls st0) := by
  intro T hT X
  obtain ⟨v9, st₀, t, T', L, h0, X', hL, e1, e2, ⟨r, w', hv, hq, hp, hd, hz, hk⟩, st⟩ := hr T hT X
  cases hv
  rw [h0] at hz hk
  have hF := va_free (wc := wc) hD hS hA isC hC
  obtain ⟨j1, j2⟩ := va_join (H1 := t.heap) hP hD isC isR hC hR hn hdis hk hF hp hd
  obtain ⟨t2, a1, b1⟩ := kk v9 w' T'.heap (locs ++ L) hq (by rw [e1]; exact j1) j2
    ⟨Nat.le_trans hS.1 (by rw [e1]; exact hz), fun q h1 h2 => by rw [e1, hk q (Nat.lt_of_lt_of_le h1 hS.1) (fun z => h2 (hF q z))]; exact hS.2.1 q h1 h2, fun q hq => by
      rcases List.mem_append.mp hq with h | h
      · exact hS.2.2 q h
      · exact hF _ (hL q h)⟩ T' rfl X'
  exact ⟨t2, st t2 a1, b1⟩
theorem ms_T {Qr : Option Value → Prop} {TX : String → Prop} (hr : vx_Run p l e R s m args below meth c H locs cells slots mc ms (F0 m pc ls st0) rest (qcT Qr a) (xcT TX) (fun _ => False))
    (kx : ∀ (E : String) (ce : Cell) (q9 : Addr) (H1 : Heap), TX E → H.size ≤ H1.size → (∀ q : Nat, q < H.size → H1[q]? = H[q]?) → H1[q9]? = some ce → ce.vm = .none → s.vm.findClass E = some ce.cls → vx_W p l e R s m args below meth c H1 locs (cells + mc) (slots + ms) Q (F0 m pc ls rest) q9)
    (kk : ∀ r : Option Value, Qr r → W p l e R s m args below meth c H locs (cells + mc) (slots + ms) Q (F0 m (pc + 3) ls (r.toList ++ rest))) : W p l e R s m args below meth c H locs cells slots Q (F0 m pc ls st0) := by
  intro T hT X
  rcases hr T hT X with ⟨v9, st₀, t, T', L, h0, X', hL, e1, e2, ⟨r, hv, hq, hh⟩, st⟩ | ⟨q, st₀, t, T', L, E, ce, h0, X', hL, e1, e2, ⟨hq, hz, hk⟩, hce, hcv, hcl, st⟩
  · cases hv
    obtain ⟨t2, a1, b1⟩ := kk v9 hq T' (by rw [e1, hh, h0]) (Stand.forget X' (fun q h => (hL q h).elim))
    exact ⟨t2, st t2 a1, b1⟩
  · rw [h0] at hz hk
    obtain ⟨t2, a1, b1⟩ := kx E ce q T'.heap hq (by rw [e1]; exact hz) (fun q h1 => by rw [e1]; exact hk q h1) (by rw [e1]; exact hce) hcv hcl T' rfl (Stand.forget X' (fun q h => (hL q h).elim))
    exact ⟨t2, st.trans a1, b1⟩
theorem ms_X {D : va_G} {w wc : va_W} {Qr : Option Value → va_W → Prop} {TX : String → Prop} (hr : vx_Run p l e R s m args below meth c H locs cells slots mc ms (F0 m pc ls st0) rest (qcM D (va_A wc H.size) Qr a) (xcT TX) (va_A wc H.size))
    (hP : va_P D vwCl w H) (hD : va_D A0 w) (hS : va_S A0 H0 H locs) (hA : ∀ q, H0.size ≤ q → A0 q) (isC isR : List Nat) {wr : va_W} (hC : isC.map (fun i => w[i]?) = wc.map some) (hR : isR.map (fun i => w[i]?) = wr.map some) (hn : va_nd isR = true) (hdis : ∀ i ∈ isR, i ∉ isC)
    (kx : ∀ (E : String) (ce : Cell) (q9 : Addr) (H1 : Heap) (locs1 : List Loc), TX E → va_P D vwCl w H1 → va_S A0 H0 H1 locs1 → H.size ≤ H1.size → (∀ q : Nat, q < H.size → H1[q]? = H[q]?) → H1[q9]? = some ce → ce.vm = .none → s.vm.findClass E = some ce.cls → vx_W p l e R s m args below meth c H1 locs1 (cells + mc) (slots + ms) Q (F0 m pc ls rest) q9)
    (kk : ∀ (r : Option Value) (w' : va_W) (H1 : Heap) (locs1 : List Loc), Qr r w' → va_P D vwCl (wr ++ w') H1 → va_D A0 (wr ++ w') → va_S A0 H0 H1 locs1 → W p l e R s m args below meth c H1 locs1 (cells + mc) (slots + ms) Q (F0 m (pc + 3) ls (r.toList ++ rest))) : W p l e R s m args below meth c H locs cells slots Q (F0 m pc ls st0) := by
  intro T hT X
  have hF := va_free (wc := wc) hD hS hA isC hC
  rcases hr T hT X with ⟨v9, st₀, t, T', L, h0, X', hL, e1, e2, ⟨r, w', hv, hq, hp, hd, hz, hk⟩, st⟩ | ⟨q, st₀, t, T', L, E, ce, h0, X', hL, e1, e2, ⟨hq, hz, hk⟩, hce, hcv, hcl, st⟩
  · cases hv
    rw [h0] at hz hk
    obtain ⟨j1, j2⟩ := va_join (H1 := t.heap) hP hD isC isR hC hR hn hdis hk hF hp hd
    obtain ⟨t2, a1, b1⟩ := kk v9 w' T'.heap (locs ++ L) hq (by rw [e1]; exact j1) j2
      ⟨Nat.le_trans hS.1 (by rw [e1]; exact hz), fun q h1 h2 => by rw [e1, hk q (Nat.lt_of_lt_of_le h1 hS.1) (fun z => h2 (hF q z))]; exact hS.2.1 q h1 h2, fun q hq => by
        rcases List.mem_append.mp hq with h | h
        · exact hS.2.2 q h
        · exact hF _ (hL q h)⟩ T' rfl X'
    exact ⟨t2, st t2 a1, b1⟩
  · rw [h0] at hz hk
    obtain ⟨t2, a1, b1⟩ := kx E ce q T'.heap (locs ++ L) hq (hP.kept (fun k z hz9 => by rw [e1]; exact hk _ (hP k z hz9).lt))
      ⟨Nat.le_trans hS.1 (by rw [e1]; exact hz), fun q h1 h2 => by rw [e1, hk q (Nat.lt_of_lt_of_le h1 hS.1)]; exact hS.2.1 q h1 h2, fun q hq => by
        rcases List.mem_append.mp hq with h | h
        · exact hS.2.2 q h
        · exact hF _ (hL q h)⟩ (by rw [e1]; exact hz) (fun q h1 => by rw [e1]; exact hk q h1) (by rw [e1]; exact hce) hcv hcl T' rfl X'
    exact ⟨t2, st.trans a1, b1⟩
end MSB
/-! one instruction -/
section MSI
variable {p : Program} {l : Launch} {e : Env} {R : Room} {s : State} {m : MethodId} {args : Array Value} {below : List Frame} {meth : Method} {c : Code} {H : Heap} {locs : List Loc} {cells slots : Nat} {Q : State → Prop}
variable {cc : ByteArray} {pc : Nat} {ls : Array Slot} {rest : List Value} {D : va_G} {A : Nat → Prop} {a : Nat} {tys : List (ClassId × FieldType)} {ws : va_W} {H0 : Heap}
theorem i_eqi {x y : Int32} (h : x = y) (k : W p l e R s m args below meth c H locs cells slots Q (F0 m pc ls (.int y :: rest))) : W p l e R s m args below meth c H locs cells slots Q (F0 m pc ls (.int x :: rest)) := by rw [h]; exact k
theorem i_eqz {x y : Int} (h : x = y) (k : W p l e R s m args below meth c H locs cells slots Q (F0 m pc ls (iv y :: rest))) : W p l e R s m args below meth c H locs cells slots Q (F0 m pc ls (iv x :: rest)) := by rw [h]; exact k
theorem i_name {x : Int} (k : ∀ y : Int, y = x → W p l e R s m args below meth c H locs cells slots Q (F0 m pc ls (iv y :: rest))) : W p l e R s m args below meth c H locs cells slots Q (F0 m pc ls (iv x :: rest)) := k x rfl
theorem i_iadd (hx : p.tables.exec = Jvm.exec) (hb : c.code = cc) {x y : Int} (d : decode cc pc = .ok (.iadd, 1)) (k : W p l e R s m args below meth c H locs cells slots Q (F0 m (pc + 1) ls (iv (x + y) :: rest))) : W p l e R s m args below meth c H locs cells slots Q (F0 m pc ls (iv y :: iv x :: rest)) := lv_iadd hx hb d (i_eqi (zI_add x y) k)
theorem i_isub (hx : p.tables.exec = Jvm.exec) (hb : c.code = cc) {x y : Int} (d : decode cc pc = .ok (.isub, 1)) (k : W p l e R s m args below meth c H locs cells slots Q (F0 m (pc + 1) ls (iv (x - y) :: rest))) : W p l e R s m args below meth c H locs cells slots Q (F0 m pc ls (iv y :: iv x :: rest)) := lv_isub hx hb d (i_eqi (zI_sub x y) k)
theorem i_imul (hx : p.tables.exec = Jvm.exec) (hb : c.code = cc) {x y : Int} (d : decode cc pc = .ok (.imul, 1)) (k : W p l e R s m args below meth c H locs cells slots Q (F0 m (pc + 1) ls (iv (x * y) :: rest))) : W p l e R s m args below meth c H locs cells slots Q (F0 m pc ls (iv y :: iv x :: rest)) := lv_imul hx hb d (i_eqi (zI_mul x y) k)
theorem i_idiv (hx : p.tables.exec = Jvm.exec) (hb : c.code = cc) {x y : Int} (h0 : 0 ≤ x) (h1 : x < 2147483648) (h2 : 0 < y) (h3 : y < 2147483648) (d : decode cc pc = .ok (.idiv, 1)) (k : W p l e R s m args below meth c H locs cells slots Q (F0 m (pc + 1) ls (iv (x / y) :: rest))) : W p l e R s m args below meth c H locs cells slots Q (F0 m pc ls (iv y :: iv x :: rest)) := lv_idiv hx hb d (zI_ne0 h2 h3) (i_eqi (zI_div h0 h1 h2 h3) k)
theorem i_irem (hx : p.tables.exec = Jvm.exec) (hb : c.code = cc) {x y : Int} (h0 : 0 ≤ x) (h1 : x < 2147483648) (h2 : 0 < y) (h3 : y < 2147483648) (d : decode cc pc = .ok (.irem, 1)) (k : W p l e R s m args below meth c H locs cells slots Q (F0 m (pc + 1) ls (iv (x % y) :: rest))) : W p l e R s m args below meth c H locs cells slots Q (F0 m pc ls (iv y :: iv x :: rest)) := lv_irem hx hb d (zI_ne0 h2 h3) (i_eqi (zI_rem h0 h1 h2 h3) k)
theorem i_iald (hx : p.tables.exec = Jvm.exec) (hb : c.code = cc) (hK : va_K D vwCl tys s) (hP : va_P D vwCl ws H) (q0 t0 : Nat) {cA : ClassId} {n : Nat} {f : Int → Int} (ha : ws[q0]? = some (a, ar cA n f)) (ht : tys[t0]? = some (cA, .int)) {i : Int} (h0 : 0 ≤ i) (h1 : i < n) (hn : n ≤ 2147483648) (d : decode cc pc = .ok (.iaload, 1))
    (k : W p l e R s m args below meth c H locs cells slots Q (F0 m (pc + 1) ls (iv (f i) :: rest))) : W p l e R s m args below meth c H locs cells slots Q (F0 m pc ls (iv i :: .ref a :: rest)) := by
  refine va_iald hx hb hK hP q0 t0 ha ht (zI_in h0 h1 hn) d ?_
  have e1 : (((zI i).toNatClampNeg : Nat) : Int) = i := by rw [zI_cl h0 (by omega)]; omega
  show W p l e R s m args below meth c H locs cells slots Q (F0 m (pc + 1) ls (.int (zI (f (((zI i).toNatClampNeg : Nat) : Int))) :: rest))
  rw [e1]
  exact k
theorem i_iast (hx : p.tables.exec = Jvm.exec) (hb : c.code = cc) (hK : va_K D vwCl tys s) (hP : va_P D vwCl ws H) (hD : va_D A ws) (hS : va_S A H0 H locs) (q0 t0 : Nat) {cA : ClassId} {n : Nat} {f : Int → Int} (ha : ws[q0]? = some (a, ar cA n f)) (ht : tys[t0]? = some (cA, .int)) {i x : Int} (h0 : 0 ≤ i) (h1 : i < n) (hn : n ≤ 2147483648) (d : decode cc pc = .ok (.iastore, 1))
    (k : ∀ (H1 : Heap) (locs1 : List Loc), va_P D vwCl (ws.set q0 (a, ar cA n (ui f i x))) H1 → va_D A (ws.set q0 (a, ar cA n (ui f i x))) → va_S A H0 H1 locs1 → W p l e R s m args below meth c H1 locs1 cells slots Q (F0 m (pc + 1) ls rest)) : W p l e R s m args below meth c H locs cells slots Q (F0 m pc ls (iv x :: iv i :: .ref a :: rest)) := by
  refine va_iast hx hb hK hP hD hS q0 t0 ha ht (zI_in h0 h1 hn) d (fun H1 locs1 h1P h1D h1S => ?_)
  rw [ui_eq h0 (by omega)] at h1P h1D
  exact k H1 locs1 h1P h1D h1S
theorem i_max (hx : p.tables.exec = Jvm.exec) (hb : c.code = cc) (hml : c.maxLocals = ls.size) {own : String} {index : Nat} (hown : s.vm.findClass own = some m.cls) (hlink : (Cond.methodLink own index Lib.Math.max.name).before args s = true) (hstat : (Cond.static Lib.Math.max.name).before args s = true) (hini : (Cond.initialized "java/lang/Math").before args s = true) (hcode : (Cond.code Lib.Math.max.name Lib.Math.max.code 2 (some .int)).before args s = true)
    (hR : 1 ≤ R.frames ∧ 21 ≤ R.locals ∧ cells ≤ R.cells ∧ slots ≤ R.slots) (hr8 : (rest.map fun v => v.category).sum ≤ 8) {x y : Int} (bx : zB x) (bY : zB y) (d : decode cc pc = .ok (.invokestatic index, 3))
    (k : W p l e R s m args below meth c H locs cells slots Q (F0 m (pc + 3) ls (iv (max x y) :: rest))) : W p l e R s m args below meth c H locs cells slots Q (F0 m pc ls (iv y :: iv x :: rest)) := va_mmax hx hb hml hown hlink hstat hini hcode hR.1 (by have := hR.2.1; omega) hR.2.2.1 hR.2.2.2 d (i_eqi (zI_max bx bY) k)
theorem i_min (hx : p.tables.exec = Jvm.exec) (hb : c.code = cc) (hml : c.maxLocals = ls.size) {own : String} {index : Nat} (hown : s.vm.findClass own = some m.cls) (hlink : (Cond.methodLink own index Lib.Math.min.name).before args s = true) (hstat : (Cond.static Lib.Math.min.name).before args s = true) (hini : (Cond.initialized "java/lang/Math").before args s = true) (hcode : (Cond.code Lib.Math.min.name Lib.Math.min.code 2 (some .int)).before args s = true)
    (hR : 1 ≤ R.frames ∧ 21 ≤ R.locals ∧ cells ≤ R.cells ∧ slots ≤ R.slots) (hr8 : (rest.map fun v => v.category).sum ≤ 8) {x y : Int} (bx : zB x) (bY : zB y) (d : decode cc pc = .ok (.invokestatic index, 3))
    (k : W p l e R s m args below meth c H locs cells slots Q (F0 m (pc + 3) ls (iv (min x y) :: rest))) : W p l e R s m args below meth c H locs cells slots Q (F0 m pc ls (iv y :: iv x :: rest)) := va_mmin hx hb hml hown hlink hstat hini hcode hR.1 (by have := hR.2.1; omega) hR.2.2.1 hR.2.2.2 d (i_eqi (zI_min bx bY) k)
theorem zB0 : zB 0 := ⟨by decide, by decide⟩
theorem i_icmp_eq (hx : p.tables.exec = Jvm.exec) (hb : c.code = cc) {x y : Int} (bx : zB x) (bY : zB y) {off : Int} {tgt : Nat} (d : decode cc pc = .ok (.if_icmp .eq off, 3)) (ht : (pc : Int) + off = (tgt : Int)) (kt : x = y → W p l e R s m args below meth c H locs cells slots Q (F0 m tgt ls rest)) (kf : ¬ x = y → W p l e R s m args below meth c H locs cells slots Q (F0 m (pc + 3) ls rest)) : W p l e R s m args below meth c H locs cells slots Q (F0 m pc ls (iv y :: iv x :: rest)) := lv_icmp_eq hx hb d ht (fun h => kt ((zI_eq bx bY).mp h)) (fun h => kf (fun q => h ((zI_eq bx bY).mpr q)))
theorem i_if_eq (hx : p.tables.exec = Jvm.exec) (hb : c.code = cc) {x : Int} (bx : zB x) {off : Int} {tgt : Nat} (d : decode cc pc = .ok (.ifCond .eq off, 3)) (ht : (pc : Int) + off = (tgt : Int)) (kt : x = 0 → W p l e R s m args below meth c H locs cells slots Q (F0 m tgt ls rest)) (kf : ¬ x = 0 → W p l e R s m args below meth c H locs cells slots Q (F0 m (pc + 3) ls rest)) : W p l e R s m args below meth c H locs cells slots Q (F0 m pc ls (iv x :: rest)) := lv_if_eq hx hb d ht (fun h => kt ((zI_eq bx zB0).mp h)) (fun h => kf (fun q => h ((zI_eq bx zB0).mpr q)))
theorem i_icmp_ne (hx : p.tables.exec = Jvm.exec) (hb : c.code = cc) {x y : Int} (bx : zB x) (bY : zB y) {off : Int} {tgt : Nat} (d : decode cc pc = .ok (.if_icmp .ne off, 3)) (ht : (pc : Int) + off = (tgt : Int)) (kt : ¬ x = y → W p l e R s m args below meth c H locs cells slots Q (F0 m tgt ls rest)) (kf : x = y → W p l e R s m args below meth c H locs cells slots Q (F0 m (pc + 3) ls rest)) : W p l e R s m args below meth c H locs cells slots Q (F0 m pc ls (iv y :: iv x :: rest)) := lv_icmp_ne hx hb d ht (fun h => kt (fun q => h ((zI_eq bx bY).mpr q))) (fun h => kf ((zI_eq bx bY).mp h))
theorem i_if_ne (hx : p.tables.exec = Jvm.exec) (hb : c.code = cc) {x : Int} (bx : zB x) {off : Int} {tgt : Nat} (d : decode cc pc = .ok (.ifCond .ne off, 3)) (ht : (pc : Int) + off = (tgt : Int)) (kt : ¬ x = 0 → W p l e R s m args below meth c H locs cells slots Q (F0 m tgt ls rest)) (kf : x = 0 → W p l e R s m args below meth c H locs cells slots Q (F0 m (pc + 3) ls rest)) : W p l e R s m args below meth c H locs cells slots Q (F0 m pc ls (iv x :: rest)) := lv_if_ne hx hb d ht (fun h => kt (fun q => h ((zI_eq bx zB0).mpr q))) (fun h => kf ((zI_eq bx zB0).mp h))
theorem i_icmp_lt (hx : p.tables.exec = Jvm.exec) (hb : c.code = cc) {x y : Int} (bx : zB x) (bY : zB y) {off : Int} {tgt : Nat} (d : decode cc pc = .ok (.if_icmp .lt off, 3)) (ht : (pc : Int) + off = (tgt : Int)) (kt : x < y → W p l e R s m args below meth c H locs cells slots Q (F0 m tgt ls rest)) (kf : ¬ x < y → W p l e R s m args below meth c H locs cells slots Q (F0 m (pc + 3) ls rest)) : W p l e R s m args below meth c H locs cells slots Q (F0 m pc ls (iv y :: iv x :: rest)) := lv_icmp_lt hx hb d ht (fun h => kt ((zI_lt bx bY).mp h)) (fun h => kf (fun q => h ((zI_lt bx bY).mpr q)))
theorem i_if_lt (hx : p.tables.exec = Jvm.exec) (hb : c.code = cc) {x : Int} (bx : zB x) {off : Int} {tgt : Nat} (d : decode cc pc = .ok (.ifCond .lt off, 3)) (ht : (pc : Int) + off = (tgt : Int)) (kt : x < 0 → W p l e R s m args below meth c H locs cells slots Q (F0 m tgt ls rest)) (kf : ¬ x < 0 → W p l e R s m args below meth c H locs cells slots Q (F0 m (pc + 3) ls rest)) : W p l e R s m args below meth c H locs cells slots Q (F0 m pc ls (iv x :: rest)) := lv_if_lt hx hb d ht (fun h => kt ((zI_lt bx zB0).mp h)) (fun h => kf (fun q => h ((zI_lt bx zB0).mpr q)))
theorem i_icmp_ge (hx : p.tables.exec = Jvm.exec) (hb : c.code = cc) {x y : Int} (bx : zB x) (bY : zB y) {off : Int} {tgt : Nat} (d : decode cc pc = .ok (.if_icmp .ge off, 3)) (ht : (pc : Int) + off = (tgt : Int)) (kt : y ≤ x → W p l e R s m args below meth c H locs cells slots Q (F0 m tgt ls rest)) (kf : ¬ y ≤ x → W p l e R s m args below meth c H locs cells slots Q (F0 m (pc + 3) ls rest)) : W p l e R s m args below meth c H locs cells slots Q (F0 m pc ls (iv y :: iv x :: rest)) := lv_icmp_ge hx hb d ht (fun h => kt ((zI_le bY bx).mp h)) (fun h => kf (fun q => h ((zI_le bY bx).mpr q)))
theorem i_if_ge (hx : p.tables.exec = Jvm.exec) (hb : c.code = cc) {x : Int} (bx : zB x) {off : Int} {tgt : Nat} (d : decode cc pc = .ok (.ifCond .ge off, 3)) (ht : (pc : Int) + off = (tgt : Int)) (kt : 0 ≤ x → W p l e R s m args below meth c H locs cells slots Q (F0 m tgt ls rest)) (kf : ¬ 0 ≤ x → W p l e R s m args below meth c H locs cells slots Q (F0 m (pc + 3) ls rest)) : W p l e R s m args below meth c H locs cells slots Q (F0 m pc ls (iv x :: rest)) := lv_if_ge hx hb d ht (fun h => kt ((zI_le zB0 bx).mp h)) (fun h => kf (fun q => h ((zI_le zB0 bx).mpr q)))
theorem i_icmp_gt (hx : p.tables.exec = Jvm.exec) (hb : c.code = cc) {x y : Int} (bx : zB x) (bY : zB y) {off : Int} {tgt : Nat} (d : decode cc pc = .ok (.if_icmp .gt off, 3)) (ht : (pc : Int) + off = (tgt : Int)) (kt : y < x → W p l e R s m args below meth c H locs cells slots Q (F0 m tgt ls rest)) (kf : ¬ y < x → W p l e R s m args below meth c H locs cells slots Q (F0 m (pc + 3) ls rest)) : W p l e R s m args below meth c H locs cells slots Q (F0 m pc ls (iv y :: iv x :: rest)) := lv_icmp_gt hx hb d ht (fun h => kt ((zI_lt bY bx).mp h)) (fun h => kf (fun q => h ((zI_lt bY bx).mpr q)))
theorem i_if_gt (hx : p.tables.exec = Jvm.exec) (hb : c.code = cc) {x : Int} (bx : zB x) {off : Int} {tgt : Nat} (d : decode cc pc = .ok (.ifCond .gt off, 3)) (ht : (pc : Int) + off = (tgt : Int)) (kt : 0 < x → W p l e R s m args below meth c H locs cells slots Q (F0 m tgt ls rest)) (kf : ¬ 0 < x → W p l e R s m args below meth c H locs cells slots Q (F0 m (pc + 3) ls rest)) : W p l e R s m args below meth c H locs cells slots Q (F0 m pc ls (iv x :: rest)) := lv_if_gt hx hb d ht (fun h => kt ((zI_lt zB0 bx).mp h)) (fun h => kf (fun q => h ((zI_lt zB0 bx).mpr q)))
theorem i_icmp_le (hx : p.tables.exec = Jvm.exec) (hb : c.code = cc) {x y : Int} (bx : zB x) (bY : zB y) {off : Int} {tgt : Nat} (d : decode cc pc = .ok (.if_icmp .le off, 3)) (ht : (pc : Int) + off = (tgt : Int)) (kt : x ≤ y → W p l e R s m args below meth c H locs cells slots Q (F0 m tgt ls rest)) (kf : ¬ x ≤ y → W p l e R s m args below meth c H locs cells slots Q (F0 m (pc + 3) ls rest)) : W p l e R s m args below meth c H locs cells slots Q (F0 m pc ls (iv y :: iv x :: rest)) := lv_icmp_le hx hb d ht (fun h => kt ((zI_le bx bY).mp h)) (fun h => kf (fun q => h ((zI_le bx bY).mpr q)))
theorem i_if_le (hx : p.tables.exec = Jvm.exec) (hb : c.code = cc) {x : Int} (bx : zB x) {off : Int} {tgt : Nat} (d : decode cc pc = .ok (.ifCond .le off, 3)) (ht : (pc : Int) + off = (tgt : Int)) (kt : x ≤ 0 → W p l e R s m args below meth c H locs cells slots Q (F0 m tgt ls rest)) (kf : ¬ x ≤ 0 → W p l e R s m args below meth c H locs cells slots Q (F0 m (pc + 3) ls rest)) : W p l e R s m args below meth c H locs cells slots Q (F0 m pc ls (iv x :: rest)) := lv_if_le hx hb d ht (fun h => kt ((zI_le bx zB0).mp h)) (fun h => kf (fun q => h ((zI_le bx zB0).mpr q)))
/-- both branches come to one place: its walk once -/
theorem i_join {P G : Prop} (hj : P) (k : P → G) : G := k hj
theorem i_iinc (hx : p.tables.exec = Jvm.exec) (hb : c.code = cc) {i nL k : Nat} {n x : Int} {lv lv' : List (Nat × Value)} (hdg : decode cc pc = .ok (.iinc i n, 3)) (h : lv_has ls nL lv) (hk : lv[k]? = some (i, iv x)) (hn : i < nL) (hl : (i, iv (x + n)) :: lv.filter (fun q => !(q.1 == i) && !(q.1 + 1 == i && q.2.category == 2)) = lv')
    (kk : ∀ ls' : Array Slot, lv_has ls' nL lv' → W p l e R s m args below meth c H locs cells slots Q (F0 m (pc + 3) ls' rest)) : W p l e R s m args below meth c H locs cells slots Q (F0 m pc ls rest) := lv_iinc hx hb hdg h hk (zI_add x n) hn hl kk
end MSI
/-! ends -/
section MSE
variable {p : Program} {l : Launch} {e : Env} {R : Room} {s : State} {m : MethodId} {args : Array Value} {below : List Frame} {meth : Method} {c : Code} {H : Heap} {locs : List Loc} {cells slots : Nat}
variable {cc : ByteArray} {pc : Nat} {ls : Array Slot} {D : va_G} {A : Nat → Prop} {w' : va_W} {Qr : Option Value → va_W → Prop} {Qt : Option Value → Prop} {TX : String → Prop} {mc ms : Nat} {free : Addr → Prop}
theorem r_P {v : Int32} {ret : FieldType} (hx : p.tables.exec = Jvm.exec) (hb : c.code = cc) (hr : meth.sig.returnType = some ret) (hlocks : meth.locks = false) (hn : narrow ret (.int v) = .int v) (d : decode cc pc = .ok (.ireturn, 1)) {v' : Int32} (hv : v = v') : W p l e R s m args below meth c s.heap [] cells slots (MQ below (vp_Si (fun r => r = v')) args s cells slots (fun _ => False)) (F0 m pc ls [.int v]) := by
  refine W.zret hx hb hr hn (fun t ht hW => ⟨v, rfl, hv, ht⟩) (fun q h => by cases h) d hlocks
theorem r_Mi {v : Int32} {ret : FieldType} (hx : p.tables.exec = Jvm.exec) (hb : c.code = cc) (hr : meth.sig.returnType = some ret) (hlocks : meth.locks = false) (hn : narrow ret (.int v) = .int v) (d : decode cc pc = .ok (.ireturn, 1)) (hS : va_S A s.heap H locs) (hP : va_P D vwCl w' H) (hD : va_D A w') (hq : Qr (some (.int v)) w') (hc : cells ≤ mc) (hs : slots ≤ ms) : W p l e R s m args below meth c H locs cells slots (MQ below (qcM D A Qr) args s mc ms A) (F0 m pc ls [.int v]) := by
  refine W.widen hc hs ?_
  exact W.zret hx hb hr hn (fun t ht hW => ⟨_, w', rfl, hq, by rw [ht]; exact hP, hD, hS.F ht⟩) hS.2.2 d hlocks
theorem r_Mv (hx : p.tables.exec = Jvm.exec) (hb : c.code = cc) (hr : meth.sig.returnType = none) (hlocks : meth.locks = false) (d : decode cc pc = .ok (.return_, 1)) (hS : va_S A s.heap H locs) (hP : va_P D vwCl w' H) (hD : va_D A w') (hq : Qr none w') (hc : cells ≤ mc) (hs : slots ≤ ms) : W p l e R s m args below meth c H locs cells slots (MQ below (qcM D A Qr) args s mc ms A) (F0 m pc ls []) := by
  refine W.widen hc hs ?_
  exact W.vret hx hb hr (fun t ht hW => ⟨_, w', rfl, hq, by rw [ht]; exact hP, hD, hS.F ht⟩) hS.2.2 d hlocks
theorem r_Ti {v : Int32} {ret : FieldType} (hx : p.tables.exec = Jvm.exec) (hb : c.code = cc) (hr : meth.sig.returnType = some ret) (hlocks : meth.locks = false) (hn : narrow ret (.int v) = .int v) (d : decode cc pc = .ok (.ireturn, 1)) (hq : Qt (some (.int v))) (hc : cells ≤ mc) (hs : slots ≤ ms) : W p l e R s m args below meth c s.heap [] cells slots (vx_MQ below (qcT Qt) (xcT TX) args s mc ms free) (F0 m pc ls [.int v]) := by
  refine W.widen hc hs (vx_ret ?_)
  exact W.zret hx hb hr hn (fun t ht hW => ⟨_, rfl, hq, ht⟩) (fun q h => by cases h) d hlocks
theorem r_Tv (hx : p.tables.exec = Jvm.exec) (hb : c.code = cc) (hr : meth.sig.returnType = none) (hlocks : meth.locks = false) (d : decode cc pc = .ok (.return_, 1)) (hq : Qt none) (hc : cells ≤ mc) (hs : slots ≤ ms) : W p l e R s m args below meth c s.heap [] cells slots (vx_MQ below (qcT Qt) (xcT TX) args s mc ms free) (F0 m pc ls []) := by
  refine W.widen hc hs (vx_ret ?_)
  exact W.vret hx hb hr (fun t ht hW => ⟨_, rfl, hq, ht⟩) (fun q h => by cases h) d hlocks
theorem r_Ta {a : Nat} {rt : FieldType} (hx : p.tables.exec = Jvm.exec) (hb : c.code = cc) (hr : meth.sig.returnType = some rt) (hrt : rt.isReference = true) (hlocks : meth.locks = false) (d : decode cc pc = .ok (.areturn, 1)) (hq : Qt (some (.ref a))) (hc : cells ≤ mc) (hs : slots ≤ ms) : W p l e R s m args below meth c s.heap [] cells slots (vx_MQ below (qcT Qt) (xcT TX) args s mc ms free) (F0 m pc ls [.ref a]) := by
  refine W.widen hc hs (vx_ret ?_)
  sorry
theorem r_Xi {v : Int32} {ret : FieldType} (hx : p.tables.exec = Jvm.exec) (hb : c.code = cc) (hr : meth.sig.returnType = some ret) (hlocks : meth.locks = false) (hn : narrow ret (.int v) = .int v) (d : decode cc pc = .ok (.ireturn, 1)) (hS : va_S A s.heap H locs) (hP : va_P D vwCl w' H) (hD : va_D A w') (hq : Qr (some (.int v)) w') (hc : cells ≤ mc) (hs : slots ≤ ms) : W p l e R s m args below meth c H locs cells slots (vx_MQ below (qcM D A Qr) (xcT TX) args s mc ms A) (F0 m pc ls [.int v]) := by
  refine W.widen hc hs (vx_ret ?_)
  exact W.zret hx hb hr hn (fun t ht hW => ⟨_, w', rfl, hq, by rw [ht]; exact hP, hD, hS.F ht⟩) hS.2.2 d hlocks
theorem r_Xv (hx : p.tables.exec = Jvm.exec) (hb : c.code = cc) (hr : meth.sig.returnType = none) (hlocks : meth.locks = false) (d : decode cc pc = .ok (.return_, 1)) (hS : va_S A s.heap H locs) (hP : va_P D vwCl w' H) (hD : va_D A w') (hq : Qr none w') (hc : cells ≤ mc) (hs : slots ≤ ms) : W p l e R s m args below meth c H locs cells slots (vx_MQ below (qcM D A Qr) (xcT TX) args s mc ms A) (F0 m pc ls []) := by
  refine W.widen hc hs (vx_ret ?_)
  exact W.vret hx hb hr (fun t ht hW => ⟨_, w', rfl, hq, by rw [ht]; exact hP, hD, hS.F ht⟩) hS.2.2 d hlocks
/-- what a callee threw goes on to the caller -/
theorem r_out {Qc : Array Value → State → Outcome → State → Prop} {rest : List Value} {E : String} {ce : Cell} {q9 : Addr} {H1 : Heap} (ht : ∀ x ∈ c.exceptionTable.toList, False) (hlocks : meth.locks = false) (hE : TX E) (hz : s.heap.size ≤ H1.size) (hk : ∀ q : Nat, q < s.heap.size → H1[q]? = s.heap[q]?) (hce : H1[q9]? = some ce) (hcv : ce.vm = .none) (hcl : s.vm.findClass E = some ce.cls) (hf : ∀ z ∈ locs, free z.base) (hc : cells ≤ mc) (hs : slots ≤ ms) :
    vx_W p l e R s m args below meth c H1 locs cells slots (vx_MQ below Qc (xcT TX) args s mc ms free) (F0 m pc ls rest) q9 :=
  vx_out (fun x h => (ht x h).elim) hlocks hce hcv hcl (fun t hT hW => ⟨hE, by rw [hT]; exact hz, fun q h => by rw [hT]; exact hk q h⟩) hf hc hs
theorem r_thr {Qc : Array Value → State → Outcome → State → Prop} {rest : List Value} (hx : p.tables.exec = Jvm.exec) (hb : c.code = cc) (hst : l.stackTraces = false) {cls text : String} {ik is ic : Nat} (hown : s.vm.findClass RX3 = some m.cls) (hcls : cls = xIA ∨ cls = xIS) (hE : ev s)
    (hk : (Cond.classLink RX3 ik cls).before args s = true) (hini : (Cond.initialized cls).before args s = true) (htx : (is, text) ∈ evS) (hat : ∀ w ∈ (vx_atS RX3 ic cls ["java/lang/RuntimeException", "java/lang/Exception"]).filter goodWord, w.before args s = true)
    (hbad : ∀ w ∈ (vx_atS RX3 ic cls ["java/lang/RuntimeException", "java/lang/Exception"]).filter (fun w => !goodWord w), w ∈ evL) (hgood : ∀ w ∈ Cond.classLink RX3 ik cls :: Cond.initialized cls :: vx_atS RX3 ic cls ["java/lang/RuntimeException", "java/lang/Exception"], vx_ot w = true)
    (hZ : Zs (fun q => s.heap.size ≤ q) s s.heap) (hsize : ls.size = c.maxLocals) (d0 : decode cc pc = .ok (.new ik, 3)) (d3 : decode cc (pc + 3) = .ok (.dup, 1)) (d4 : decode cc (pc + 4) = .ok (.ldc is, 2)) (d6 : decode cc (pc + 6) = .ok (.invokespecial ic, 3)) (d9 : decode cc (pc + 9) = .ok (.athrow, 1))
    (ht : ∀ x ∈ c.exceptionTable.toList, False) (hR : 6 ≤ R.frames ∧ 90 ≤ R.locals ∧ cells + 1 ≤ R.cells ∧ slots + 6 ≤ R.slots) (hr8 : (rest.map fun v => v.category).sum ≤ 8) (hlocks : meth.locks = false) (hT : TX cls) (hc : cells + 1 ≤ mc) (hs : slots + 6 ≤ ms) :
    W p l e R s m args below meth c s.heap [] cells slots (vx_MQ below Qc (xcT TX) args s mc ms free) (F0 m pc ls rest) := by
  obtain ⟨sa, hsa⟩ := hE.2.1 _ htx
  refine vx_throwS (A := fun q => s.heap.size ≤ q) hx hb hst (names := ["java/lang/RuntimeException", "java/lang/Exception"]) hown (by rcases hcls with rfl | rfl <;> decide +kernel) (by decide +kernel) hk hini hsa (vx_hat hat hbad (fun w hw => va_Nw.use (evw_tab (evL_ok w hw)) (hE.1 w hw))) hgood hZ.1 hZ.2 va_S.rf hsize d0 d3 d4 d6 d9 (fun x h => (ht x h).elim) (by have := hR.1; simp only [List.length_cons, List.length_nil]; omega) (by have := hR.2.1; simp only [List.length_cons, List.length_nil]; omega) hR.2.2.1 hR.2.2.2 hlocks (fun t hal hz hk9 => ⟨hT, hz, hk9⟩) (fun z h => by cases h) hc hs
end MSE
end
