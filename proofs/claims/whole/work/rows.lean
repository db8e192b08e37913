section
-- ===== PART A: goes FIRST, ahead of the names: the tables' words, and 'selects' of the private methods out of them =====
/-- a private method of a class that the tables say can be made, by its rows of tables_1 -/
def lw_okq (q : MethodName × Nat) : Prop := (q.1.cls ≠ "java/lang/invoke/MethodHandle" ∧ q.1.cls ≠ "java/lang/invoke/VarHandle") ∧ Cond.instantiable q.1.cls q.2 ∈ tables_1 ∧ Cond.privateMethod q.1 ∈ tables_1 ∧ Cond.instanceMethod q.1 ∈ tables_1
theorem lw_p0 : lw_okq (⟨"java/lang/Throwable", "fillInStackTrace", "(I)Ljava/lang/Throwable;"⟩, 6) := ⟨⟨by decide +kernel, by decide +kernel⟩, List.mem_of_getElem? (i := 200) (by decide +kernel), List.mem_of_getElem? (i := 198) (by decide +kernel), List.mem_of_getElem? (i := 199) (by decide +kernel)⟩
theorem lw_p1 : lw_okq (⟨"MarkdownPlanner$Season", "startAnew", "(I)V"⟩, 7) := ⟨⟨by decide +kernel, by decide +kernel⟩, List.mem_of_getElem? (i := 22) (by decide +kernel), List.mem_of_getElem? (i := 230) (by decide +kernel), List.mem_of_getElem? (i := 231) (by decide +kernel)⟩
theorem lw_p2 : lw_okq (⟨"MarkdownPlanner$Store", "startAnew", "()V"⟩, 5) := ⟨⟨by decide +kernel, by decide +kernel⟩, List.mem_of_getElem? (i := 105) (by decide +kernel), List.mem_of_getElem? (i := 234) (by decide +kernel), List.mem_of_getElem? (i := 235) (by decide +kernel)⟩
theorem lw_p3 : lw_okq (⟨"MarkdownPlanner$Season", "keepsLadderDown", "(II)Z"⟩, 7) := ⟨⟨by decide +kernel, by decide +kernel⟩, List.mem_of_getElem? (i := 22) (by decide +kernel), List.mem_of_getElem? (i := 249) (by decide +kernel), List.mem_of_getElem? (i := 250) (by decide +kernel)⟩
theorem lw_p4 : lw_okq (⟨"MarkdownPlanner", "storeOf", "(I)LMarkdownPlanner$Store;"⟩, 3) := ⟨⟨by decide +kernel, by decide +kernel⟩, List.mem_of_getElem? (i := 14) (by decide +kernel), List.mem_of_getElem? (i := 276) (by decide +kernel), List.mem_of_getElem? (i := 277) (by decide +kernel)⟩
theorem lw_p5 : lw_okq (⟨"MarkdownPlanner$Store", "wholeStock", "()I"⟩, 5) := ⟨⟨by decide +kernel, by decide +kernel⟩, List.mem_of_getElem? (i := 105) (by decide +kernel), List.mem_of_getElem? (i := 300) (by decide +kernel), List.mem_of_getElem? (i := 301) (by decide +kernel)⟩
theorem lw_p6 : lw_okq (⟨"MarkdownPlanner", "requireSeasonOn", "()V"⟩, 3) := ⟨⟨by decide +kernel, by decide +kernel⟩, List.mem_of_getElem? (i := 14) (by decide +kernel), List.mem_of_getElem? (i := 312) (by decide +kernel), List.mem_of_getElem? (i := 313) (by decide +kernel)⟩
theorem lw_p7 : lw_okq (⟨"MarkdownPlanner$Store", "waitFrom", "(II)I"⟩, 5) := ⟨⟨by decide +kernel, by decide +kernel⟩, List.mem_of_getElem? (i := 105) (by decide +kernel), List.mem_of_getElem? (i := 318) (by decide +kernel), List.mem_of_getElem? (i := 319) (by decide +kernel)⟩
theorem lw_p8 : lw_okq (⟨"MarkdownPlanner$Store", "sellForAWeek", "()I"⟩, 5) := ⟨⟨by decide +kernel, by decide +kernel⟩, List.mem_of_getElem? (i := 105) (by decide +kernel), List.mem_of_getElem? (i := 342) (by decide +kernel), List.mem_of_getElem? (i := 343) (by decide +kernel)⟩
theorem lw_p9 : lw_okq (⟨"MarkdownPlanner$Store", "salesAt", "(I)I"⟩, 5) := ⟨⟨by decide +kernel, by decide +kernel⟩, List.mem_of_getElem? (i := 105) (by decide +kernel), List.mem_of_getElem? (i := 346) (by decide +kernel), List.mem_of_getElem? (i := 347) (by decide +kernel)⟩
theorem lw_p10 : lw_okq (⟨"MarkdownPlanner$Store", "sizesInStock", "()I"⟩, 5) := ⟨⟨by decide +kernel, by decide +kernel⟩, List.mem_of_getElem? (i := 105) (by decide +kernel), List.mem_of_getElem? (i := 350) (by decide +kernel), List.mem_of_getElem? (i := 351) (by decide +kernel)⟩
theorem lw_p11 : lw_okq (⟨"MarkdownPlanner$Store", "fullestSize", "()I"⟩, 5) := ⟨⟨by decide +kernel, by decide +kernel⟩, List.mem_of_getElem? (i := 105) (by decide +kernel), List.mem_of_getElem? (i := 358) (by decide +kernel), List.mem_of_getElem? (i := 359) (by decide +kernel)⟩
theorem lw_p12 : lw_okq (⟨"MarkdownPlanner$Plans", "lookAt", "(LMarkdownPlanner$Season;LMarkdownPlanner$Store;)V"⟩, 12) := ⟨⟨by decide +kernel, by decide +kernel⟩, List.mem_of_getElem? (i := 63) (by decide +kernel), List.mem_of_getElem? (i := 405) (by decide +kernel), List.mem_of_getElem? (i := 406) (by decide +kernel)⟩
theorem lw_p13 : lw_okq (⟨"MarkdownPlanner$Plans", "greatestWorth", "(I)I"⟩, 12) := ⟨⟨by decide +kernel, by decide +kernel⟩, List.mem_of_getElem? (i := 63) (by decide +kernel), List.mem_of_getElem? (i := 415) (by decide +kernel), List.mem_of_getElem? (i := 416) (by decide +kernel)⟩
theorem lw_p14 : lw_okq (⟨"MarkdownPlanner$Plans", "tellWorths", "(I)V"⟩, 12) := ⟨⟨by decide +kernel, by decide +kernel⟩, List.mem_of_getElem? (i := 63) (by decide +kernel), List.mem_of_getElem? (i := 419) (by decide +kernel), List.mem_of_getElem? (i := 420) (by decide +kernel)⟩
theorem lw_p15 : lw_okq (⟨"MarkdownPlanner$Plans", "worthOfChoosing", "(III)I"⟩, 12) := ⟨⟨by decide +kernel, by decide +kernel⟩, List.mem_of_getElem? (i := 63) (by decide +kernel), List.mem_of_getElem? (i := 426) (by decide +kernel), List.mem_of_getElem? (i := 427) (by decide +kernel)⟩
def lw_privs_1 : List (MethodName × Nat) := [(⟨"java/lang/Throwable", "fillInStackTrace", "(I)Ljava/lang/Throwable;"⟩, 6), (⟨"MarkdownPlanner$Season", "startAnew", "(I)V"⟩, 7), (⟨"MarkdownPlanner$Store", "startAnew", "()V"⟩, 5), (⟨"MarkdownPlanner$Season", "keepsLadderDown", "(II)Z"⟩, 7), (⟨"MarkdownPlanner", "storeOf", "(I)LMarkdownPlanner$Store;"⟩, 3), (⟨"MarkdownPlanner$Store", "wholeStock", "()I"⟩, 5), (⟨"MarkdownPlanner", "requireSeasonOn", "()V"⟩, 3), (⟨"MarkdownPlanner$Store", "waitFrom", "(II)I"⟩, 5), (⟨"MarkdownPlanner$Store", "sellForAWeek", "()I"⟩, 5), (⟨"MarkdownPlanner$Store", "salesAt", "(I)I"⟩, 5), (⟨"MarkdownPlanner$Store", "sizesInStock", "()I"⟩, 5), (⟨"MarkdownPlanner$Store", "fullestSize", "()I"⟩, 5), (⟨"MarkdownPlanner$Plans", "lookAt", "(LMarkdownPlanner$Season;LMarkdownPlanner$Store;)V"⟩, 12), (⟨"MarkdownPlanner$Plans", "greatestWorth", "(I)I"⟩, 12), (⟨"MarkdownPlanner$Plans", "tellWorths", "(I)V"⟩, 12), (⟨"MarkdownPlanner$Plans", "worthOfChoosing", "(III)I"⟩, 12)]
theorem lw_r1 : ∀ q ∈ lw_privs_1, lw_okq q := List.forall_mem_cons.mpr ⟨lw_p0, List.forall_mem_cons.mpr ⟨lw_p1, List.forall_mem_cons.mpr ⟨lw_p2, List.forall_mem_cons.mpr ⟨lw_p3, List.forall_mem_cons.mpr ⟨lw_p4, List.forall_mem_cons.mpr ⟨lw_p5, List.forall_mem_cons.mpr ⟨lw_p6, List.forall_mem_cons.mpr ⟨lw_p7, List.forall_mem_cons.mpr ⟨lw_p8, List.forall_mem_cons.mpr ⟨lw_p9, List.forall_mem_cons.mpr ⟨lw_p10, List.forall_mem_cons.mpr ⟨lw_p11, List.forall_mem_cons.mpr ⟨lw_p12, List.forall_mem_cons.mpr ⟨lw_p13, List.forall_mem_cons.mpr ⟨lw_p14, List.forall_mem_cons.mpr ⟨lw_p15, fun _ h => absurd h List.not_mem_nil⟩⟩⟩⟩⟩⟩⟩⟩⟩⟩⟩⟩⟩⟩⟩⟩
theorem lw_p16 : lw_okq (⟨"MarkdownPlanner$Plans", "worthOfTaking", "(IIII)I"⟩, 12) := ⟨⟨by decide +kernel, by decide +kernel⟩, List.mem_of_getElem? (i := 63) (by decide +kernel), List.mem_of_getElem? (i := 430) (by decide +kernel), List.mem_of_getElem? (i := 431) (by decide +kernel)⟩
theorem lw_p17 : lw_okq (⟨"MarkdownPlanner$Plans", "worthOfKeeping", "(IIII)I"⟩, 12) := ⟨⟨by decide +kernel, by decide +kernel⟩, List.mem_of_getElem? (i := 63) (by decide +kernel), List.mem_of_getElem? (i := 434) (by decide +kernel), List.mem_of_getElem? (i := 435) (by decide +kernel)⟩
theorem lw_p18 : lw_okq (⟨"MarkdownPlanner$Plans", "worthFrom", "(III)I"⟩, 12) := ⟨⟨by decide +kernel, by decide +kernel⟩, List.mem_of_getElem? (i := 63) (by decide +kernel), List.mem_of_getElem? (i := 438) (by decide +kernel), List.mem_of_getElem? (i := 439) (by decide +kernel)⟩
theorem lw_p19 : lw_okq (⟨"MarkdownPlanner$Plans", "greatestWorthByAll", "()I"⟩, 12) := ⟨⟨by decide +kernel, by decide +kernel⟩, List.mem_of_getElem? (i := 63) (by decide +kernel), List.mem_of_getElem? (i := 451) (by decide +kernel), List.mem_of_getElem? (i := 452) (by decide +kernel)⟩
theorem lw_p20 : lw_okq (⟨"MarkdownPlanner$Plans", "worthOfLadder", "(I)I"⟩, 12) := ⟨⟨by decide +kernel, by decide +kernel⟩, List.mem_of_getElem? (i := 63) (by decide +kernel), List.mem_of_getElem? (i := 456) (by decide +kernel), List.mem_of_getElem? (i := 457) (by decide +kernel)⟩
theorem lw_p21 : lw_okq (⟨"MarkdownPlanner$Plans", "turnToNextLadder", "(I)Z"⟩, 12) := ⟨⟨by decide +kernel, by decide +kernel⟩, List.mem_of_getElem? (i := 63) (by decide +kernel), List.mem_of_getElem? (i := 460) (by decide +kernel), List.mem_of_getElem? (i := 461) (by decide +kernel)⟩
theorem lw_p22 : lw_okq (⟨"MarkdownPlanner$Plans", "bestStepIn", "(I)I"⟩, 12) := ⟨⟨by decide +kernel, by decide +kernel⟩, List.mem_of_getElem? (i := 63) (by decide +kernel), List.mem_of_getElem? (i := 471) (by decide +kernel), List.mem_of_getElem? (i := 472) (by decide +kernel)⟩
theorem lw_p23 : lw_okq (⟨"MarkdownPlanner$Plans", "lowestBestStep", "(III)I"⟩, 12) := ⟨⟨by decide +kernel, by decide +kernel⟩, List.mem_of_getElem? (i := 63) (by decide +kernel), List.mem_of_getElem? (i := 475) (by decide +kernel), List.mem_of_getElem? (i := 476) (by decide +kernel)⟩
theorem lw_p24 : lw_okq (⟨"MarkdownPlannerModel", "asked", "(Z)Z"⟩, 14) := ⟨⟨by decide +kernel, by decide +kernel⟩, List.mem_of_getElem? (i := 486) (by decide +kernel), List.mem_of_getElem? (i := 546) (by decide +kernel), List.mem_of_getElem? (i := 547) (by decide +kernel)⟩
theorem lw_p25 : lw_okq (⟨"MarkdownPlannerModel", "asked", "(ZZ)Z"⟩, 14) := ⟨⟨by decide +kernel, by decide +kernel⟩, List.mem_of_getElem? (i := 486) (by decide +kernel), List.mem_of_getElem? (i := 557) (by decide +kernel), List.mem_of_getElem? (i := 558) (by decide +kernel)⟩
theorem lw_p26 : lw_okq (⟨"MarkdownPlannerModel", "whole", "(I)I"⟩, 14) := ⟨⟨by decide +kernel, by decide +kernel⟩, List.mem_of_getElem? (i := 486) (by decide +kernel), List.mem_of_getElem? (i := 579) (by decide +kernel), List.mem_of_getElem? (i := 580) (by decide +kernel)⟩
theorem lw_p27 : lw_okq (⟨"MarkdownPlannerModel", "waits", "(I)I"⟩, 14) := ⟨⟨by decide +kernel, by decide +kernel⟩, List.mem_of_getElem? (i := 486) (by decide +kernel), List.mem_of_getElem? (i := 587) (by decide +kernel), List.mem_of_getElem? (i := 588) (by decide +kernel)⟩
theorem lw_p28 : lw_okq (⟨"MarkdownPlannerModel", "sells", "(II)I"⟩, 14) := ⟨⟨by decide +kernel, by decide +kernel⟩, List.mem_of_getElem? (i := 486) (by decide +kernel), List.mem_of_getElem? (i := 599) (by decide +kernel), List.mem_of_getElem? (i := 600) (by decide +kernel)⟩
theorem lw_p29 : lw_okq (⟨"MarkdownPlannerModel", "told", "(I)I"⟩, 14) := ⟨⟨by decide +kernel, by decide +kernel⟩, List.mem_of_getElem? (i := 486) (by decide +kernel), List.mem_of_getElem? (i := 607) (by decide +kernel), List.mem_of_getElem? (i := 608) (by decide +kernel)⟩
theorem lw_p30 : lw_okq (⟨"MarkdownPlannerModel", "finds", "(II)I"⟩, 14) := ⟨⟨by decide +kernel, by decide +kernel⟩, List.mem_of_getElem? (i := 486) (by decide +kernel), List.mem_of_getElem? (i := 639) (by decide +kernel), List.mem_of_getElem? (i := 640) (by decide +kernel)⟩
theorem lw_p31 : lw_okq (⟨"MarkdownPlannerModel", "worthOf", "(IIIIII)I"⟩, 14) := ⟨⟨by decide +kernel, by decide +kernel⟩, List.mem_of_getElem? (i := 486) (by decide +kernel), List.mem_of_getElem? (i := 643) (by decide +kernel), List.mem_of_getElem? (i := 644) (by decide +kernel)⟩
def lw_privs_2 : List (MethodName × Nat) := [(⟨"MarkdownPlanner$Plans", "worthOfTaking", "(IIII)I"⟩, 12), (⟨"MarkdownPlanner$Plans", "worthOfKeeping", "(IIII)I"⟩, 12), (⟨"MarkdownPlanner$Plans", "worthFrom", "(III)I"⟩, 12), (⟨"MarkdownPlanner$Plans", "greatestWorthByAll", "()I"⟩, 12), (⟨"MarkdownPlanner$Plans", "worthOfLadder", "(I)I"⟩, 12), (⟨"MarkdownPlanner$Plans", "turnToNextLadder", "(I)Z"⟩, 12), (⟨"MarkdownPlanner$Plans", "bestStepIn", "(I)I"⟩, 12), (⟨"MarkdownPlanner$Plans", "lowestBestStep", "(III)I"⟩, 12), (⟨"MarkdownPlannerModel", "asked", "(Z)Z"⟩, 14), (⟨"MarkdownPlannerModel", "asked", "(ZZ)Z"⟩, 14), (⟨"MarkdownPlannerModel", "whole", "(I)I"⟩, 14), (⟨"MarkdownPlannerModel", "waits", "(I)I"⟩, 14), (⟨"MarkdownPlannerModel", "sells", "(II)I"⟩, 14), (⟨"MarkdownPlannerModel", "told", "(I)I"⟩, 14), (⟨"MarkdownPlannerModel", "finds", "(II)I"⟩, 14), (⟨"MarkdownPlannerModel", "worthOf", "(IIIIII)I"⟩, 14)]
theorem lw_r2 : ∀ q ∈ lw_privs_2, lw_okq q := List.forall_mem_cons.mpr ⟨lw_p16, List.forall_mem_cons.mpr ⟨lw_p17, List.forall_mem_cons.mpr ⟨lw_p18, List.forall_mem_cons.mpr ⟨lw_p19, List.forall_mem_cons.mpr ⟨lw_p20, List.forall_mem_cons.mpr ⟨lw_p21, List.forall_mem_cons.mpr ⟨lw_p22, List.forall_mem_cons.mpr ⟨lw_p23, List.forall_mem_cons.mpr ⟨lw_p24, List.forall_mem_cons.mpr ⟨lw_p25, List.forall_mem_cons.mpr ⟨lw_p26, List.forall_mem_cons.mpr ⟨lw_p27, List.forall_mem_cons.mpr ⟨lw_p28, List.forall_mem_cons.mpr ⟨lw_p29, List.forall_mem_cons.mpr ⟨lw_p30, List.forall_mem_cons.mpr ⟨lw_p31, fun _ h => absurd h List.not_mem_nil⟩⟩⟩⟩⟩⟩⟩⟩⟩⟩⟩⟩⟩⟩⟩⟩
def lw_privs : List (MethodName × Nat) := lw_privs_1 ++ (lw_privs_2)
def lw_tbl : List Cond := k2_sels lw_privs ++ tables_1
theorem lw_privs_ok : ∀ q ∈ lw_privs, lw_okq q := by
  show ∀ q ∈ lw_privs_1 ++ (lw_privs_2), lw_okq q
  exact List.forall_mem_append.mpr ⟨lw_r1, lw_r2⟩
-- ===== end of PART A; then your names; then what follows =====
end
section
/-! ===== BEGIN words of one list among another's, by their places ===== -/
theorem goodIn_r {big : List Cond} (ws : List Cond) (ps : List Nat) (hp : ws = ps.filterMap (fun i => big[i]?)) (h : ws.all goodWord = true) : GoodIn big ws := by
  intro w hw
  have h1 := List.all_eq_true.mp h w hw
  rw [hp] at hw
  obtain ⟨i, -, hi⟩ := List.mem_filterMap.mp hw
  have hm : w ∈ big := by first | exact List.mem_of_getElem? hi | exact List.getElem?_mem hi
  exact ⟨hm, good_of_word h1⟩
theorem goodIn_app {big a b : List Cond} (ha : GoodIn big a) (hb : GoodIn big b) : GoodIn big (a ++ b) := fun w h => (List.mem_append.mp h).elim (ha w) (hb w)
theorem goodIn_ca {big a b : List Cond} {c : Cond} (ha : GoodIn big (c :: a)) (hb : GoodIn big b) : GoodIn big (c :: (a ++ b)) := fun w h => (List.mem_cons.mp h).elim (fun e => ha w (List.mem_cons.mpr (Or.inl e))) (fun h => (List.mem_append.mp h).elim (fun h => ha w (List.mem_cons.mpr (Or.inr h))) (hb w))
theorem goodIn_sub {big ws : List Cond} (hm : ∀ w ∈ ws, w ∈ big) (h : ws.all goodWord = true) : GoodIn big ws := fun w hw => ⟨hm w hw, good_of_word (List.all_eq_true.mp h w hw)⟩
/-! ===== END ===== -/

/-! ===== BEGIN exceptions that leave a method, and their catching by the caller (launches without stack traces) ===== -/
section VXA
/-! The laws vx_back, vx_callV, vx_callS, vx_callSW, vx_throw0, vx_throwS follow proofs of the library, with one case more: JvmDerived/Free/Laws.lean (Back.of_free), Shelf42/LK1.lean (callV, callS), Shelf/KitTraced.lean (throwNew0V, throwNewS). -/
/-- where a method has thrown q: the class by its name, the cell, what was written, the world -/
def vx_T (XC : String → State → State → Prop) (st : State) (q : Addr) (t : State) (mc ms : Nat) (free : Addr → Prop) : Prop :=
  ∃ (E : String) (ce : Cell) (L : List Loc), XC E st t ∧ t.heap[q]? = some ce ∧ ce.vm = .none ∧ st.vm.findClass E = some ce.cls ∧ st.WarmedH t.vm ∧ st.sameButNew ({ t with vm := st.vm } : State) L mc ms ∧ ∀ z ∈ L, free z.base
def vx_Q (Qc : Array Value → State → Outcome → State → Prop) (XC : String → State → State → Prop) (mc ms : Nat) (free : Addr → Prop) : Array Value → State → Outcome → State → Prop := fun a st o t =>
  (Qc a st o t ∧ ∃ L, FrameEnd st o t L mc ms ∧ ∀ q ∈ L, free q.base) ∨ ∃ q, o = .threw q ∧ vx_T XC st q t mc ms free
/-- a callee that returns or throws -/
def vx_Met (l : Launch) (y : MethodName) (ws : List Cond) (rm : Room) (Pc : Array Value → State → Prop) (Qc : Array Value → State → Outcome → State → Prop) (XC : String → State → State → Prop) (mc ms : Nat) (free : Addr → Prop) : Prop :=
  MetFree l y (headSpec ws rm) Pc (fun _ _ _ _ _ => True) (vx_Q Qc XC mc ms free)
def vx_Post (XC : String → State → State → Prop) (mc ms : Nat) (free : Addr → Prop) : Pt → Array Value → Addr → Pt → Prop := fun A a q B =>
  ∃ (g : JFrame) (mk : MethodId) (t : State) (L : List Loc) (E : String) (ce : Cell), B.U.heap = t.heap ∧ B.U.vm = t.vm ∧ XC E (A.U.calling g mk a) t ∧ t.heap[q]? = some ce ∧ ce.vm = .none ∧ A.U.vm.findClass E = some ce.cls ∧ B.locs = A.locs ++ L ∧ (∀ z ∈ L, free z.base) ∧ B.cells = A.cells + mc ∧ B.slots = A.slots + ms
def vx_Back (l : Launch) (R : Room) (p : Program) (e : Env) (below : List Frame) (s : State) (sargs : Array Value) (y : MethodName) (len W9 : Nat)
    (Pre : Pt → Array Value → Prop) (Post : Pt → Array Value → Option Value → Pt → Prop) (PostX : Pt → Array Value → Addr → Pt → Prop) : Prop :=
  ∀ (m : MethodId) (meth : Method) (c : Code) (A : Pt) (g : JFrame) (ig : Instr) (mk : MethodId) (a : Array Value),
    Stand p l e R s m sargs below meth c A.U A.locs A.cells A.slots → g.method = m → g.locals.size = c.maxLocals → decode c.code g.pc = .ok (ig, len) →
    2 * g.monitorRoom + (g.stack.map fun v => v.category).sum ≤ W9 → A.U.methodNamed? y = some mk → Pre A a →
    (∃ (v : Option Value) (B : Pt), Stand p l e R s m sargs below meth c B.U B.locs B.cells B.slots ∧ Post A a v B ∧
      Steps p.tables e below (doInvoke e (A.U.setTop g) [] mk a).1 (B.U.setTop { g with pc := g.pc + len, stack := v.toList ++ g.stack })) ∨
    (∃ (q : Addr) (B : Pt), Stand p l e R s m sargs below meth c B.U B.locs B.cells B.slots ∧ PostX A a q B ∧
      Steps p.tables e below (doInvoke e (A.U.setTop g) [] mk a).1 ((B.U.setTop g).pushFrame (.throwing q)))
section Payer
variable {l : Launch} {R : Room} {p : Program} {e : Env} {below : List Frame} {s : State} {sargs : Array Value} {y : MethodName} {len W9 : Nat}
theorem vx_back {ws : List Cond} {rm : Room} {Pc : Array Value → State → Prop} {Qc : Array Value → State → Outcome → State → Prop} {XC : String → State → State → Prop} {mc ms : Nat} {free : Addr → Prop} {bytes : ByteArray} {maxL : Nat} {ret : Option FieldType}
    (hM : vx_Met l y ws rm Pc Qc XC mc ms free) (hblind : FrameBlind Pc) (hrc : rm.cells = mc) (hrs : rm.slots = ms)
    (hframes : rm.frames + 1 ≤ R.frames) (hlocals : W9 + (maxL + 11) + rm.locals ≤ R.locals)
    (hws : ∀ w ∈ ws, ∀ a' U, s.WarmedH U.vm → w.before a' U = true) (hcode : Cond.code y bytes maxL ret ∈ ws) (hinit : ∀ a' U, s.WarmedH U.vm → (Cond.initialized y.cls).before a' U = true) :
    vx_Back l R p e below s sargs y len W9 (PreOf R mc ms Pc) (PostOf Qc mc ms free) (vx_Post XC mc ms free) := by
  intro m meth c A g ig mk a X hg hsize hdg hW hn hp
  have h1 : (headSpec ws rm).pre.before a A.U = true := atoms_intro fun w hw => hws w hw _ _ X.warmed
  have h2 : (Cond.code y bytes maxL ret).before a A.U = true := hws _ hcode _ _ X.warmed
  have h3 : (Cond.initialized y.cls).before a A.U = true := hinit _ _ X.warmed
  have h4 : A.cells + (headSpec ws rm).room.cells ≤ R.cells := by rw [show (headSpec ws rm).room.cells = mc from hrc]; exact hp.1
  have h5 : A.slots + (headSpec ws rm).room.slots ≤ R.slots := by rw [show (headSpec ws rm).room.slots = ms from hrs]; exact hp.2.1
  have hPc : Pc a (A.U.calling g mk a) := hblind _ _ _ _ hp.2.2
  obtain ⟨U, Ls, c0, s0⟩ := A
  dsimp only [Pt.U, Pt.locs, Pt.cells, Pt.slots] at h1 h2 h3 h4 h5 X hn hPc ⊢
  obtain ⟨methY, cY, hmY, hcY, -, hlY, -, -, -, -⟩ := Cond.code_spec hn h2
  obtain ⟨kY, hkY, -⟩ := className_of_methodNamed hn
  have hinitY : kY.init = .initialized := Cond.initialized_spec (findClass_of_methodNamed hn) hkY h3
  have h : At U g.method c below := by rw [hg]; exact X.here
  have hlocals9 : W9 + (maxL + 11) + (headSpec ws rm).room.locals ≤ R.locals := hlocals
  have happ : (headSpec ws rm).appliesLoose y e.platform (U.calling g mk a) = true :=
    Spec.appliesLoose_calling (g := g) h hdg hn hkY hinitY
      (X.room_calling (g := g) (R' := (headSpec ws rm).room) hsize hmY hcY hframes (by rw [hlY]; omega) h4 h5) h1
  obtain ⟨mid, hmid⟩ := h.above
  have hfr : (U.setTop g).frames = (.java g :: mid) ++ below := by rw [State.frames_setTop' g h.top, hmid]; rfl
  obtain ⟨o, s₂, hsteps, -, hend, hq⟩ := Steps.callFree hM p X.admits X.cas X.clock (acts := []) hfr happ hPc trivial
  have hq' : vx_Q Qc XC mc ms free a (U.calling g mk a) o s₂ := hq
  rw [State.frames_setTop' g h.top] at hend
  obtain ⟨g₀, hg0⟩ := Option.isSome_iff_exists.mp h.top
  obtain ⟨r, hr⟩ := State.topJava?_eq_some.mp hg0
  have hr' : (({ U with heap := s₂.heap, slotsUsed := s₂.slotsUsed } : State).setVm s₂.vm).frames = .java g₀ :: r := hr
  rcases hq' with ⟨hqc, L, hfe, hL⟩ | ⟨q, rfl, E, ce, L, hx, hce, hcv, hcl, hW₂, hsm, hL⟩
  · obtain ⟨⟨v, rfl⟩, hW₂, e2, q2, q3, q4, q5, q6⟩ := id hfe
    have e3 : s₂ = ({ (U.calling g mk a).setFrames s₂.frames with heap := s₂.heap, slotsUsed := s₂.slotsUsed } : State).setVm s₂.vm := by
      have : s₂ = ({ s₂ with vm := (U.calling g mk a).vm } : State).setVm s₂.vm := rfl
      rw [e2] at this
      exact this
    obtain ⟨c₂, i₂, len₂, hc₂, hd₂, hf₂⟩ := hend
    have hW' : U.WarmedH s₂.vm := hW₂
    have hcc : c₂ = c := by
      have h1 : s₂.code? g.method = U.code? g.method := by
        rw [State.code?_eq, State.code?_eq, hW'.alike.method?]
      exact Option.some.inj (hc₂.symm.trans (h1.trans h.code))
    subst hcc
    have hlen : len₂ = len := by rw [hdg] at hd₂; cases hd₂; rfl
    subst hlen
    have hs₂ : s₂ = (({ U with heap := s₂.heap, slotsUsed := s₂.slotsUsed } : State).setVm s₂.vm).setTop { g with pc := g.pc + len₂, stack := v.toList ++ g.stack } := by
      refine e3.trans ?_
      rw [hf₂, State.calling_eq h.top, State.setFrames_setFrames, State.setTop_of_frames _ hr', hr]
      rfl
    have hsame : U.sameButNew ({ U with heap := s₂.heap, slotsUsed := s₂.slotsUsed } : State) L mc ms := by
      refine ⟨?_, q2, q3, q4, q5, q6⟩
      obtain ⟨t, ht, -⟩ := State.frames_cons hr
      show ({ U with heap := s₂.heap, slotsUsed := s₂.slotsUsed } : State) = { U.setFrames U.frames with heap := s₂.heap, slotsUsed := s₂.slotsUsed }
      rw [State.setFrames_self ht]
    subst hg
    refine Or.inl ⟨v, ⟨(({ U with heap := s₂.heap, slotsUsed := s₂.slotsUsed } : State).setVm s₂.vm), Ls ++ L, c0 + mc, s0 + ms⟩,
      ⟨X.admits, X.cas, X.clock, X.frames, X.room, X.hears, X.method, X.code, (X.here.setHeapUsed s₂.heap s₂.slotsUsed).setVm hW'.alike, X.tail, State.WarmedH.trans X.warmed hW', X.limits, X.bytes, X.same.trans (hsame.setVm s.vm)⟩,
      ⟨g, mk, s₂, L, rfl, rfl, hqc, rfl, hL, rfl, rfl⟩, ?_⟩
    show Steps p.tables e below _ ((({ U with heap := s₂.heap, slotsUsed := s₂.slotsUsed } : State).setVm s₂.vm).setTop { g with pc := g.pc + len₂, stack := v.toList ++ g.stack })
    rw [← hs₂]
    exact hsteps
  · obtain ⟨e2, q2, q3, q4, q5, q6⟩ := id hsm
    have e3 : s₂ = ({ (U.calling g mk a).setFrames s₂.frames with heap := s₂.heap, slotsUsed := s₂.slotsUsed } : State).setVm s₂.vm := by
      have : s₂ = ({ s₂ with vm := (U.calling g mk a).vm } : State).setVm s₂.vm := rfl
      rw [e2] at this
      exact this
    have hf₂ : s₂.frames = .throwing q :: .java g :: U.frames.tail := hend
    have hW' : U.WarmedH s₂.vm := hW₂
    have hs₂ : s₂ = ((({ U with heap := s₂.heap, slotsUsed := s₂.slotsUsed } : State).setVm s₂.vm).setTop g).pushFrame (.throwing q) := by
      refine e3.trans ?_
      rw [hf₂, State.calling_eq h.top, State.setFrames_setFrames, State.pushFrame, State.frames_setTop _ hr', State.setTop_of_frames _ hr', State.setFrames_setFrames, hr]
      rfl
    have hsame : U.sameButNew ({ U with heap := s₂.heap, slotsUsed := s₂.slotsUsed } : State) L mc ms := by
      refine ⟨?_, q2, q3, q4, q5, q6⟩
      obtain ⟨t, ht, -⟩ := State.frames_cons hr
      show ({ U with heap := s₂.heap, slotsUsed := s₂.slotsUsed } : State) = { U.setFrames U.frames with heap := s₂.heap, slotsUsed := s₂.slotsUsed }
      rw [State.setFrames_self ht]
    subst hg
    refine Or.inr ⟨q, ⟨(({ U with heap := s₂.heap, slotsUsed := s₂.slotsUsed } : State).setVm s₂.vm), Ls ++ L, c0 + mc, s0 + ms⟩,
      ⟨X.admits, X.cas, X.clock, X.frames, X.room, X.hears, X.method, X.code, (X.here.setHeapUsed s₂.heap s₂.slotsUsed).setVm hW'.alike, X.tail, State.WarmedH.trans X.warmed hW', X.limits, X.bytes, X.same.trans (hsame.setVm s.vm)⟩,
      ⟨g, mk, s₂, L, E, ce, rfl, rfl, hx, hce, hcv, hcl, rfl, hL, rfl, rfl⟩, ?_⟩
    show Steps p.tables e below _ (((({ U with heap := s₂.heap, slotsUsed := s₂.slotsUsed } : State).setVm s₂.vm).setTop g).pushFrame (.throwing q))
    rw [← hs₂]
    exact hsteps
end Payer
section Calls
variable {p : Program} {l : Launch} {e : Env} {R : Room} {s : State} {m : MethodId} {args : Array Value} {below : List Frame} {meth : Method} {c : Code} {T : State} {locs : List Loc} {cells slots : Nat}
theorem vx_callV (X : Stand p l e R s m args below meth c T locs cells slots) (hexec : p.tables.exec = Jvm.exec) {own C : String} {index : Nat} {y : MethodName} {bytes : ByteArray} {maxL : Nat} {ret : Option FieldType}
    (hown : s.vm.findClass own = some m.cls) (hlink : (Cond.methodLink own index y).before args s = true) (hinst : (Cond.instanceMethod y).before args s = true) (hsel : (Cond.selects C y y).before args s = true)
    (hcode : (Cond.code y bytes maxL ret).before args s = true) (hy : y.cls ≠ "java/lang/invoke/MethodHandle" ∧ y.cls ≠ "java/lang/invoke/VarHandle")
    {W9 : Nat} {Pre : Pt → Array Value → Prop} {Post : Pt → Array Value → Option Value → Pt → Prop} {PostX : Pt → Array Value → Addr → Pt → Prop} (hK : vx_Back l R p e below s args y 3 W9 Pre Post PostX)
    {b : Addr} {cellB : Cell} (hcell : T.heap[b]? = some cellB) (hobj : cellB.vm.isStatics = false) (hcls : s.vm.findClass C = some cellB.cls)
    {g : JFrame} (hg : g.method = m) (hsize : g.locals.size = c.maxLocals) {argsL rest : List Value} (hlen : ∀ sig, parseMethodDescriptor y.desc = some sig → argsL.length = sig.parameters.length)
    (hstack : g.stack = argsL.reverse ++ .ref b :: rest) (hW : 2 * g.monitorRoom + (rest.map fun v => v.category).sum ≤ W9) (hdg : decode c.code g.pc = .ok (.invokevirtual index, 3))
    (hpre : ∀ vm₁, s.WarmedH vm₁ → Pre ⟨T.setVm vm₁, locs, cells, slots⟩ (Value.ref b :: argsL).toArray) :
    (∃ (v : Option Value) (vm₁ : Vm) (B : Pt), s.WarmedH vm₁ ∧ Stand p l e R s m args below meth c B.U B.locs B.cells B.slots ∧ Post ⟨T.setVm vm₁, locs, cells, slots⟩ (Value.ref b :: argsL).toArray v B ∧
      ∀ target, Steps p.tables e below (B.U.setTop { g with pc := g.pc + 3, stack := v.toList ++ rest }) target → Steps p.tables e below (T.setTop g) target) ∨
    (∃ (q : Addr) (vm₁ : Vm) (B : Pt), s.WarmedH vm₁ ∧ Stand p l e R s m args below meth c B.U B.locs B.cells B.slots ∧ PostX ⟨T.setVm vm₁, locs, cells, slots⟩ (Value.ref b :: argsL).toArray q B ∧
      Steps p.tables e below (T.setTop g) ((B.U.setTop { g with stack := rest }).pushFrame (.throwing q))) := by
  obtain ⟨mk, methM, hnamed, hmethM, hstM, habM⟩ := Cond.instanceMethod_spec hinst
  obtain ⟨methM', cM, hmethM', -, -, -, -, -, -, hsigM⟩ := Cond.code_spec hnamed hcode
  cases hmethM.symm.trans hmethM'
  obtain ⟨c2, r2, m2, q1, q2, q3, q4, kP, hkP, hkPi⟩ := Cond.selects_spec hsel
  cases hcls.symm.trans q1
  cases (State.methodFound?_of_named hnamed hy).symm.trans q2
  cases hnamed.symm.trans q3
  have hselP : selectMethod e.platform s.vm cellB.cls mk = .method mk := by rw [Launch.admits_selectMethod X.admits]; exact q4
  obtain ⟨vm₁, X₁, hstep₁⟩ := X.invokevirtual hexec hown hlink hnamed hmethM hstM hkP hkPi hy (a := b) (cell := cellB) hcell
    (fun z h => by rw [h] at hobj; cases hobj) hselP hmethM habM hkP hkPi (g := g) hg (argsL := argsL) (rest := rest) (hlen _ hsigM) hstack hdg
  rcases hK m meth c ⟨T.setVm vm₁, locs, cells, slots⟩ { g with stack := rest } (.invokevirtual index) mk (Value.ref b :: argsL).toArray X₁ hg hsize hdg hW (X₁.named hnamed) (hpre vm₁ X₁.warmed) with ⟨v, B, X', hpost, hsteps⟩ | ⟨q, B, X', hpost, hsteps⟩
  · exact Or.inl ⟨v, vm₁, B, X₁.warmed, X', hpost, fun target h => hstep₁ _ fun acts => by rw [doInvoke_state]; exact hsteps.trans h⟩
  · exact Or.inr ⟨q, vm₁, B, X₁.warmed, X', hpost, hstep₁ _ fun acts => by rw [doInvoke_state]; exact hsteps⟩
theorem vx_callS (X : Stand p l e R s m args below meth c T locs cells slots) (hexec : p.tables.exec = Jvm.exec) {own : String} {index : Nat} {y : MethodName} {bytes : ByteArray} {maxL : Nat} {ret : Option FieldType}
    (hown : s.vm.findClass own = some m.cls) (hlink : (Cond.methodLink own index y).before args s = true) (hstat : (Cond.static y).before args s = true) (hinit : (Cond.initialized y.cls).before args s = true)
    (hcode : (Cond.code y bytes maxL ret).before args s = true) (hy : y.cls ≠ "java/lang/invoke/MethodHandle" ∧ y.cls ≠ "java/lang/invoke/VarHandle")
    {W9 : Nat} {Pre : Pt → Array Value → Prop} {Post : Pt → Array Value → Option Value → Pt → Prop} {PostX : Pt → Array Value → Addr → Pt → Prop} (hK : vx_Back l R p e below s args y 3 W9 Pre Post PostX)
    {g : JFrame} (hg : g.method = m) (hsize : g.locals.size = c.maxLocals) {argsL rest : List Value} (hlen : ∀ sig, parseMethodDescriptor y.desc = some sig → argsL.length = sig.parameters.length)
    (hstack : g.stack = argsL.reverse ++ rest) (hW : 2 * g.monitorRoom + (rest.map fun v => v.category).sum ≤ W9) (hdg : decode c.code g.pc = .ok (.invokestatic index, 3))
    (hpre : ∀ vm₁, s.WarmedH vm₁ → Pre ⟨T.setVm vm₁, locs, cells, slots⟩ argsL.toArray) :
    (∃ (v : Option Value) (vm₁ : Vm) (B : Pt), s.WarmedH vm₁ ∧ Stand p l e R s m args below meth c B.U B.locs B.cells B.slots ∧ Post ⟨T.setVm vm₁, locs, cells, slots⟩ argsL.toArray v B ∧
      ∀ target, Steps p.tables e below (B.U.setTop { g with pc := g.pc + 3, stack := v.toList ++ rest }) target → Steps p.tables e below (T.setTop g) target) ∨
    (∃ (q : Addr) (vm₁ : Vm) (B : Pt), s.WarmedH vm₁ ∧ Stand p l e R s m args below meth c B.U B.locs B.cells B.slots ∧ PostX ⟨T.setVm vm₁, locs, cells, slots⟩ argsL.toArray q B ∧
      Steps p.tables e below (T.setTop g) ((B.U.setTop { g with stack := rest }).pushFrame (.throwing q))) := by
  obtain ⟨mk, hnamed⟩ := Cond.code_named hcode
  obtain ⟨methM, cM, hmethM, -, -, -, -, -, -, hsigM⟩ := Cond.code_spec hnamed hcode
  have hstatic : methM.isStatic = true := Cond.static_spec hnamed hmethM hstat
  obtain ⟨kP, hkP, -⟩ := className_of_methodNamed hnamed
  have hinitP : kP.init = .initialized := Cond.initialized_spec (findClass_of_methodNamed hnamed) hkP hinit
  obtain ⟨vm₁, X₁, hstep₁⟩ := X.invokestatic hexec hown hlink hnamed hmethM hstatic hkP hinitP hy (g := g) hg (argsL := argsL) (rest := rest) (hlen _ hsigM) hstack hdg
  rcases hK m meth c ⟨T.setVm vm₁, locs, cells, slots⟩ { g with stack := rest } (.invokestatic index) mk argsL.toArray X₁ hg hsize hdg hW (X₁.named hnamed) (hpre vm₁ X₁.warmed) with ⟨v, B, X', hpost, hsteps⟩ | ⟨q, B, X', hpost, hsteps⟩
  · exact Or.inl ⟨v, vm₁, B, X₁.warmed, X', hpost, fun target h => hstep₁ _ fun acts => by rw [doInvoke_state]; exact hsteps.trans h⟩
  · exact Or.inr ⟨q, vm₁, B, X₁.warmed, X', hpost, hstep₁ _ fun acts => by rw [doInvoke_state]; exact hsteps⟩
end Calls
theorem vx_cls {s : State} {T : State} {vm₁ : Vm} {E : String} {k : ClassId} (hW : s.WarmedH vm₁) (h : (T.setVm vm₁).vm.findClass E = some k) : s.vm.findClass E = some k := by
  have h1 : vm₁.findClass E = some k := h
  rw [hW.alike.findClass] at h1
  exact h1
/-- the method's frame g, with q thrown over it -/
def vx_W (p : Program) (l : Launch) (e : Env) (R : Room) (s : State) (m : MethodId) (args : Array Value) (below : List Frame) (meth : Method) (c : Code) (H : Heap) (locs : List Loc) (cells slots : Nat) (Q : State → Prop) (g : JFrame) (q : Addr) : Prop :=
  ∀ T : State, T.heap = H → Stand p l e R s m args below meth c T locs cells slots → ∃ t, Steps p.tables e below ((T.setTop g).pushFrame (.throwing q)) t ∧ Q t
def vx_Run (p : Program) (l : Launch) (e : Env) (R : Room) (s : State) (m : MethodId) (args : Array Value) (below : List Frame) (meth : Method) (c : Code) (H : Heap) (locs : List Loc) (cells slots mc ms : Nat) (g : JFrame) (rest : List Value) (Qa : State → Outcome → State → Prop) (XC : String → State → State → Prop) (free : Addr → Prop) : Prop :=
  ∀ T : State, T.heap = H → Stand p l e R s m args below meth c T locs cells slots →
    (∃ (v : Option Value) (st₀ t T' : State) (L : List Loc), st₀.heap = H ∧ Stand p l e R s m args below meth c T' (locs ++ L) (cells + mc) (slots + ms) ∧ (∀ q ∈ L, free q.base) ∧ T'.heap = t.heap ∧ T'.vm = t.vm ∧ Qa st₀ (.returned v) t ∧
      Goes p e below T g T' { g with pc := g.pc + 3, stack := v.toList ++ rest }) ∨
    (∃ (q : Addr) (st₀ t T' : State) (L : List Loc) (E : String) (ce : Cell), st₀.heap = H ∧ Stand p l e R s m args below meth c T' (locs ++ L) (cells + mc) (slots + ms) ∧ (∀ z ∈ L, free z.base) ∧ T'.heap = t.heap ∧ T'.vm = t.vm ∧ XC E st₀ t ∧ t.heap[q]? = some ce ∧ ce.vm = .none ∧ s.vm.findClass E = some ce.cls ∧
      Steps p.tables e below (T.setTop g) ((T'.setTop { g with stack := rest }).pushFrame (.throwing q)))
def vx_X {S : Type} (px : S → Prop) (B : String → S → State → Prop) (A : Nat → Prop) : String → State → State → Prop := fun E st t => ∃ u : S, px u ∧ B E u t ∧ va_F A st t
section Runs
variable {p : Program} {l : Launch} {e : Env} {R : Room} {s : State} {m : MethodId} {args : Array Value} {below : List Frame} {meth : Method} {c : Code} {H : Heap} {locs : List Loc} {cells slots : Nat}
variable {y : MethodName} {bytes cc : ByteArray} {maxL nL mc ms n index : Nat} {ret : Option FieldType} {ws : List Cond} {rm : Room} {Pc : Array Value → State → Prop} {Qc : Array Value → State → Outcome → State → Prop} {XC : String → State → State → Prop} {free : Addr → Prop} {Ts : List Cond} {own C : String} {b : Addr} {As rest : List Value} {g : JFrame}
theorem vx_callBack (cb : CallB R s args own index y bytes maxL ret ws rm mc ms n) (hM : vx_Met l y ws rm Pc Qc XC mc ms free) (hbl : FrameBlind Pc) : vx_Back l R p e below s args y 3 8 (PreOf R mc ms Pc) (PostOf Qc mc ms free) (vx_Post XC mc ms free) := by
  obtain ⟨hrc, hrs, hfr, hlo, hws, hcw, -, hini, -⟩ := cb
  exact vx_back (bytes := bytes) (maxL := maxL) (ret := ret) hM hbl hrc hrs hfr hlo hws hcw (fun a' U hW => word_at hW (Or.inl (by first | rfl | simp [Cond.onTables, Cond.keeps, Cond.steady])) hini)
theorem vx_runV (S : CallFix p m c cc nL s args Ts own) (hM : vx_Met l y ws rm Pc Qc XC mc ms free) (cw : CallW R s args own C index y bytes maxL ret ws rm mc ms n) (hp : PreV s H C b Pc As)
    (hg : g.method = m) (hn : As.length = n) (hsize : g.locals.size = nL) (hstack : g.stack = As.reverse ++ .ref b :: rest) (hW : 2 * g.monitorRoom + (rest.map fun v => v.category).sum ≤ 8) (hdg : decode cc g.pc = .ok (.invokevirtual index, 3)) (hf : cells + mc ≤ R.cells ∧ slots + ms ≤ R.slots) :
    vx_Run p l e R s m args below meth c H locs cells slots mc ms g rest (Qc (Value.ref b :: As).toArray) XC free := by
  have hK : vx_Back l R p e below s args y 3 8 (PreOf R mc ms Pc) (PostOf Qc mc ms free) (vx_Post XC mc ms free) := vx_callBack cw.1 hM hp.1
  obtain ⟨⟨-, -, -, -, -, -, hcode, -, hy, hlen, hl⟩, hin, hse⟩ := cw
  obtain ⟨hx, hb, hml, ho, -⟩ := S
  obtain ⟨-, ⟨cellB, hcB, hoB, hclB⟩, hPc⟩ := hp
  intro T hT X
  rcases vx_callV X hx (C := C) (bytes := bytes) (maxL := maxL) (ret := ret) ho hl hin hse hcode hy hK (by rw [hT]; exact hcB) hoB hclB hg (hsize.trans hml.symm) (argsL := As) (rest := rest) (fun sig h => hn.trans (hlen sig h)) hstack hW (by rw [hb]; exact hdg)
    (fun vm₁ hW₁ => ⟨hf.1, hf.2, hPc (T.setVm vm₁) hT hW₁⟩) with ⟨v, vm₁, ⟨U', l2, c2, s2⟩, hW₁, X', ⟨g', mk, t, L, e1, e2, hq, h1, hL, h2, h3⟩, st⟩ | ⟨q, vm₁, ⟨U', l2, c2, s2⟩, hW₁, X', ⟨g', mk, t, L, E, ce, e1, e2, hq, hce, hcv, hcl, h1, hL, h2, h3⟩, st⟩
  · dsimp only [Pt.U, Pt.locs, Pt.cells, Pt.slots] at X' e1 e2 h1 h2 h3 st
    subst h1; subst h2; subst h3
    exact Or.inl ⟨v, (T.setVm vm₁).calling g' mk (Value.ref b :: As).toArray, t, U', L, hT, X', hL, e1, e2, hq, st⟩
  · dsimp only [Pt.U, Pt.locs, Pt.cells, Pt.slots] at X' e1 e2 h1 h2 h3 st hcl
    subst h1; subst h2; subst h3
    exact Or.inr ⟨q, (T.setVm vm₁).calling g' mk (Value.ref b :: As).toArray, t, U', L, E, ce, hT, X', hL, e1, e2, hq, hce, hcv, vx_cls hW₁ hcl, st⟩
theorem vx_runS (S : CallFix p m c cc nL s args Ts own) (hM : vx_Met l y ws rm Pc Qc XC mc ms free) (cw : CallB R s args own index y bytes maxL ret ws rm mc ms n ∧ (Cond.static y).before args s = true) (hp : PreS s H Pc As)
    (hg : g.method = m) (hn : As.length = n) (hsize : g.locals.size = nL) (hstack : g.stack = As.reverse ++ rest) (hW : 2 * g.monitorRoom + (rest.map fun v => v.category).sum ≤ 8) (hdg : decode cc g.pc = .ok (.invokestatic index, 3)) (hf : cells + mc ≤ R.cells ∧ slots + ms ≤ R.slots) :
    vx_Run p l e R s m args below meth c H locs cells slots mc ms g rest (Qc As.toArray) XC free := by
  have hK : vx_Back l R p e below s args y 3 8 (PreOf R mc ms Pc) (PostOf Qc mc ms free) (vx_Post XC mc ms free) := vx_callBack cw.1 hM hp.1
  obtain ⟨⟨-, -, -, -, -, -, hcode, hini, hy, hlen, hl⟩, hstt⟩ := cw
  obtain ⟨hx, hb, hml, ho, -⟩ := S
  intro T hT X
  rcases vx_callS X hx (bytes := bytes) (maxL := maxL) (ret := ret) ho hl hstt hini hcode hy hK hg (hsize.trans hml.symm) (argsL := As) (rest := rest) (fun sig h => hn.trans (hlen sig h)) hstack hW (by rw [hb]; exact hdg)
    (fun vm₁ hW₁ => ⟨hf.1, hf.2, hp.2 (T.setVm vm₁) hT hW₁⟩) with ⟨v, vm₁, ⟨U', l2, c2, s2⟩, hW₁, X', ⟨g', mk, t, L, e1, e2, hq, h1, hL, h2, h3⟩, st⟩ | ⟨q, vm₁, ⟨U', l2, c2, s2⟩, hW₁, X', ⟨g', mk, t, L, E, ce, e1, e2, hq, hce, hcv, hcl, h1, hL, h2, h3⟩, st⟩
  · dsimp only [Pt.U, Pt.locs, Pt.cells, Pt.slots] at X' e1 e2 h1 h2 h3 st
    subst h1; subst h2; subst h3
    exact Or.inl ⟨v, (T.setVm vm₁).calling g' mk As.toArray, t, U', L, hT, X', hL, e1, e2, hq, st⟩
  · dsimp only [Pt.U, Pt.locs, Pt.cells, Pt.slots] at X' e1 e2 h1 h2 h3 st hcl
    subst h1; subst h2; subst h3
    exact Or.inr ⟨q, (T.setVm vm₁).calling g' mk As.toArray, t, U', L, E, ce, hT, X', hL, e1, e2, hq, hce, hcv, vx_cls hW₁ hcl, st⟩
end Runs
section Rows
variable {p : Program} {l : Launch} {e : Env} {R : Room} {s : State} {m : MethodId} {args : Array Value} {below : List Frame} {meth : Method} {c : Code} {H : Heap} {locs : List Loc} {cells slots : Nat} {Q : State → Prop}
variable {mc ms : Nat} {free : Addr → Prop} {A0 A1 : Nat → Prop} {H0 : Heap} {a : Array Value} {pc : Nat} {ls : Array Slot} {st0 rest : List Value}
theorem vx_keep {st₀ t T' : State} {L : List Loc} (h0 : st₀.heap = H) (e1 : T'.heap = t.heap) (hS : va_S A0 H0 H locs) (hA : ∀ q, q < H.size → A1 q → A0 q) (hf : ∀ q, free q → A0 q) (hL : ∀ q ∈ L, free q.base) (hF : va_F A1 st₀ t) :
    H.size ≤ T'.heap.size ∧ (∀ q : Nat, q < H.size → ¬ A1 q → T'.heap[q]? = H[q]?) ∧ va_S A0 H0 T'.heap (locs ++ L) := by
  obtain ⟨hz, hk⟩ := hF
  rw [h0] at hz hk
  exact ⟨by rw [e1]; exact hz, fun q h1 h2 => by rw [e1]; exact hk q h1 h2,
    ⟨Nat.le_trans hS.1 (by rw [e1]; exact hz), fun q h1 h2 => by rw [e1, hk q (Nat.lt_of_lt_of_le h1 hS.1) (fun z => h2 (hA q (Nat.lt_of_lt_of_le h1 hS.1) z))]; exact hS.2.1 q h1 h2, fun q hq => by
      rcases List.mem_append.mp hq with h | h
      · exact hS.2.2 q h
      · exact hf _ (hL q h)⟩⟩
theorem vx_calli {S SX : Type} {post : Int32 → S → Prop} {px : SX → Prop} {B : S → State → Prop} {BX : String → SX → State → Prop} {AX : Nat → Prop} (hr : vx_Run p l e R s m args below meth c H locs cells slots mc ms (F0 m pc ls st0) rest (va_Qi post B A1 a) (vx_X px BX AX) free) (hS : va_S A0 H0 H locs) (hA : ∀ q, q < H.size → A1 q → A0 q) (hf : ∀ q, free q → A0 q) (hAX : ∀ q, q < H.size → AX q → A0 q)
    (kx : ∀ (E : String) (ce : Cell) (q9 : Addr) (u : SX) (t : State) (H1 : Heap) (locs1 : List Loc), t.heap = H1 → s.vm.Alike t.vm → px u → BX E u t → H.size ≤ H1.size → (∀ q : Nat, q < H.size → ¬ AX q → H1[q]? = H[q]?) → va_S A0 H0 H1 locs1 → H1[q9]? = some ce → ce.vm = .none → s.vm.findClass E = some ce.cls → vx_W p l e R s m args below meth c H1 locs1 (cells + mc) (slots + ms) Q (F0 m pc ls rest) q9)
    (kk : ∀ (r : Int32) (u : S) (t : State) (H1 : Heap) (locs1 : List Loc), t.heap = H1 → s.vm.Alike t.vm → post r u → B u t → H.size ≤ H1.size → (∀ q : Nat, q < H.size → ¬ A1 q → H1[q]? = H[q]?) → va_S A0 H0 H1 locs1 → W p l e R s m args below meth c H1 locs1 (cells + mc) (slots + ms) Q (F0 m (pc + 3) ls (.int r :: rest))) : W p l e R s m args below meth c H locs cells slots Q (F0 m pc ls st0) := by
  intro T hT X
  rcases hr T hT X with ⟨v, st₀, t, T', L, h0, X', hL, e1, e2, ⟨⟨r, u, hv, hp, hb⟩, hF⟩, st⟩ | ⟨q, st₀, t, T', L, E, ce, h0, X', hL, e1, e2, ⟨u, hp, hb, hF⟩, hce, hcv, hcl, st⟩
  · cases hv
    obtain ⟨k1, k2, k3⟩ := vx_keep h0 e1 hS hA hf hL hF
    obtain ⟨t2, a1, b1⟩ := kk r u t T'.heap (locs ++ L) e1.symm (by rw [← e2]; exact X'.warmed.alike) hp hb k1 k2 k3 T' rfl X'
    exact ⟨t2, st t2 a1, b1⟩
  · obtain ⟨k1, k2, k3⟩ := vx_keep h0 e1 hS hAX hf hL hF
    obtain ⟨t2, a1, b1⟩ := kx E ce q u t T'.heap (locs ++ L) e1.symm (by rw [← e2]; exact X'.warmed.alike) hp hb k1 k2 k3 (by rw [e1]; exact hce) hcv hcl T' rfl X'
    exact ⟨t2, st.trans a1, b1⟩
theorem vx_calll {S SX : Type} {post : Int64 → S → Prop} {px : SX → Prop} {B : S → State → Prop} {BX : String → SX → State → Prop} {AX : Nat → Prop} (hr : vx_Run p l e R s m args below meth c H locs cells slots mc ms (F0 m pc ls st0) rest (va_Ql post B A1 a) (vx_X px BX AX) free) (hS : va_S A0 H0 H locs) (hA : ∀ q, q < H.size → A1 q → A0 q) (hf : ∀ q, free q → A0 q) (hAX : ∀ q, q < H.size → AX q → A0 q)
    (kx : ∀ (E : String) (ce : Cell) (q9 : Addr) (u : SX) (t : State) (H1 : Heap) (locs1 : List Loc), t.heap = H1 → s.vm.Alike t.vm → px u → BX E u t → H.size ≤ H1.size → (∀ q : Nat, q < H.size → ¬ AX q → H1[q]? = H[q]?) → va_S A0 H0 H1 locs1 → H1[q9]? = some ce → ce.vm = .none → s.vm.findClass E = some ce.cls → vx_W p l e R s m args below meth c H1 locs1 (cells + mc) (slots + ms) Q (F0 m pc ls rest) q9)
    (kk : ∀ (r : Int64) (u : S) (t : State) (H1 : Heap) (locs1 : List Loc), t.heap = H1 → s.vm.Alike t.vm → post r u → B u t → H.size ≤ H1.size → (∀ q : Nat, q < H.size → ¬ A1 q → H1[q]? = H[q]?) → va_S A0 H0 H1 locs1 → W p l e R s m args below meth c H1 locs1 (cells + mc) (slots + ms) Q (F0 m (pc + 3) ls (.long r :: rest))) : W p l e R s m args below meth c H locs cells slots Q (F0 m pc ls st0) := by
  intro T hT X
  rcases hr T hT X with ⟨v, st₀, t, T', L, h0, X', hL, e1, e2, ⟨⟨r, u, hv, hp, hb⟩, hF⟩, st⟩ | ⟨q, st₀, t, T', L, E, ce, h0, X', hL, e1, e2, ⟨u, hp, hb, hF⟩, hce, hcv, hcl, st⟩
  · cases hv
    obtain ⟨k1, k2, k3⟩ := vx_keep h0 e1 hS hA hf hL hF
    obtain ⟨t2, a1, b1⟩ := kk r u t T'.heap (locs ++ L) e1.symm (by rw [← e2]; exact X'.warmed.alike) hp hb k1 k2 k3 T' rfl X'
    exact ⟨t2, st t2 a1, b1⟩
  · obtain ⟨k1, k2, k3⟩ := vx_keep h0 e1 hS hAX hf hL hF
    obtain ⟨t2, a1, b1⟩ := kx E ce q u t T'.heap (locs ++ L) e1.symm (by rw [← e2]; exact X'.warmed.alike) hp hb k1 k2 k3 (by rw [e1]; exact hce) hcv hcl T' rfl X'
    exact ⟨t2, st.trans a1, b1⟩
theorem vx_callf {S SX : Type} {post : UInt32 → S → Prop} {px : SX → Prop} {B : S → State → Prop} {BX : String → SX → State → Prop} {AX : Nat → Prop} (hr : vx_Run p l e R s m args below meth c H locs cells slots mc ms (F0 m pc ls st0) rest (va_Qf post B A1 a) (vx_X px BX AX) free) (hS : va_S A0 H0 H locs) (hA : ∀ q, q < H.size → A1 q → A0 q) (hf : ∀ q, free q → A0 q) (hAX : ∀ q, q < H.size → AX q → A0 q)
    (kx : ∀ (E : String) (ce : Cell) (q9 : Addr) (u : SX) (t : State) (H1 : Heap) (locs1 : List Loc), t.heap = H1 → s.vm.Alike t.vm → px u → BX E u t → H.size ≤ H1.size → (∀ q : Nat, q < H.size → ¬ AX q → H1[q]? = H[q]?) → va_S A0 H0 H1 locs1 → H1[q9]? = some ce → ce.vm = .none → s.vm.findClass E = some ce.cls → vx_W p l e R s m args below meth c H1 locs1 (cells + mc) (slots + ms) Q (F0 m pc ls rest) q9)
    (kk : ∀ (r : UInt32) (u : S) (t : State) (H1 : Heap) (locs1 : List Loc), t.heap = H1 → s.vm.Alike t.vm → post r u → B u t → H.size ≤ H1.size → (∀ q : Nat, q < H.size → ¬ A1 q → H1[q]? = H[q]?) → va_S A0 H0 H1 locs1 → W p l e R s m args below meth c H1 locs1 (cells + mc) (slots + ms) Q (F0 m (pc + 3) ls (.float r :: rest))) : W p l e R s m args below meth c H locs cells slots Q (F0 m pc ls st0) := by
  intro T hT X
  rcases hr T hT X with ⟨v, st₀, t, T', L, h0, X', hL, e1, e2, ⟨⟨r, u, hv, hp, hb⟩, hF⟩, st⟩ | ⟨q, st₀, t, T', L, E, ce, h0, X', hL, e1, e2, ⟨u, hp, hb, hF⟩, hce, hcv, hcl, st⟩
  · cases hv
    obtain ⟨k1, k2, k3⟩ := vx_keep h0 e1 hS hA hf hL hF
    obtain ⟨t2, a1, b1⟩ := kk r u t T'.heap (locs ++ L) e1.symm (by rw [← e2]; exact X'.warmed.alike) hp hb k1 k2 k3 T' rfl X'
    exact ⟨t2, st t2 a1, b1⟩
  · obtain ⟨k1, k2, k3⟩ := vx_keep h0 e1 hS hAX hf hL hF
    obtain ⟨t2, a1, b1⟩ := kx E ce q u t T'.heap (locs ++ L) e1.symm (by rw [← e2]; exact X'.warmed.alike) hp hb k1 k2 k3 (by rw [e1]; exact hce) hcv hcl T' rfl X'
    exact ⟨t2, st.trans a1, b1⟩
theorem vx_calld {S SX : Type} {post : UInt64 → S → Prop} {px : SX → Prop} {B : S → State → Prop} {BX : String → SX → State → Prop} {AX : Nat → Prop} (hr : vx_Run p l e R s m args below meth c H locs cells slots mc ms (F0 m pc ls st0) rest (va_Qd post B A1 a) (vx_X px BX AX) free) (hS : va_S A0 H0 H locs) (hA : ∀ q, q < H.size → A1 q → A0 q) (hf : ∀ q, free q → A0 q) (hAX : ∀ q, q < H.size → AX q → A0 q)
    (kx : ∀ (E : String) (ce : Cell) (q9 : Addr) (u : SX) (t : State) (H1 : Heap) (locs1 : List Loc), t.heap = H1 → s.vm.Alike t.vm → px u → BX E u t → H.size ≤ H1.size → (∀ q : Nat, q < H.size → ¬ AX q → H1[q]? = H[q]?) → va_S A0 H0 H1 locs1 → H1[q9]? = some ce → ce.vm = .none → s.vm.findClass E = some ce.cls → vx_W p l e R s m args below meth c H1 locs1 (cells + mc) (slots + ms) Q (F0 m pc ls rest) q9)
    (kk : ∀ (r : UInt64) (u : S) (t : State) (H1 : Heap) (locs1 : List Loc), t.heap = H1 → s.vm.Alike t.vm → post r u → B u t → H.size ≤ H1.size → (∀ q : Nat, q < H.size → ¬ A1 q → H1[q]? = H[q]?) → va_S A0 H0 H1 locs1 → W p l e R s m args below meth c H1 locs1 (cells + mc) (slots + ms) Q (F0 m (pc + 3) ls (.double r :: rest))) : W p l e R s m args below meth c H locs cells slots Q (F0 m pc ls st0) := by
  intro T hT X
  rcases hr T hT X with ⟨v, st₀, t, T', L, h0, X', hL, e1, e2, ⟨⟨r, u, hv, hp, hb⟩, hF⟩, st⟩ | ⟨q, st₀, t, T', L, E, ce, h0, X', hL, e1, e2, ⟨u, hp, hb, hF⟩, hce, hcv, hcl, st⟩
  · cases hv
    obtain ⟨k1, k2, k3⟩ := vx_keep h0 e1 hS hA hf hL hF
    obtain ⟨t2, a1, b1⟩ := kk r u t T'.heap (locs ++ L) e1.symm (by rw [← e2]; exact X'.warmed.alike) hp hb k1 k2 k3 T' rfl X'
    exact ⟨t2, st t2 a1, b1⟩
  · obtain ⟨k1, k2, k3⟩ := vx_keep h0 e1 hS hAX hf hL hF
    obtain ⟨t2, a1, b1⟩ := kx E ce q u t T'.heap (locs ++ L) e1.symm (by rw [← e2]; exact X'.warmed.alike) hp hb k1 k2 k3 (by rw [e1]; exact hce) hcv hcl T' rfl X'
    exact ⟨t2, st.trans a1, b1⟩
theorem vx_callv {S SX : Type} {post : S → Prop} {px : SX → Prop} {B : S → State → Prop} {BX : String → SX → State → Prop} {AX : Nat → Prop} (hr : vx_Run p l e R s m args below meth c H locs cells slots mc ms (F0 m pc ls st0) rest (va_Qv post B A1 a) (vx_X px BX AX) free) (hS : va_S A0 H0 H locs) (hA : ∀ q, q < H.size → A1 q → A0 q) (hf : ∀ q, free q → A0 q) (hAX : ∀ q, q < H.size → AX q → A0 q)
    (kx : ∀ (E : String) (ce : Cell) (q9 : Addr) (u : SX) (t : State) (H1 : Heap) (locs1 : List Loc), t.heap = H1 → s.vm.Alike t.vm → px u → BX E u t → H.size ≤ H1.size → (∀ q : Nat, q < H.size → ¬ AX q → H1[q]? = H[q]?) → va_S A0 H0 H1 locs1 → H1[q9]? = some ce → ce.vm = .none → s.vm.findClass E = some ce.cls → vx_W p l e R s m args below meth c H1 locs1 (cells + mc) (slots + ms) Q (F0 m pc ls rest) q9)
    (kk : ∀ (u : S) (t : State) (H1 : Heap) (locs1 : List Loc), t.heap = H1 → s.vm.Alike t.vm → post u → B u t → H.size ≤ H1.size → (∀ q : Nat, q < H.size → ¬ A1 q → H1[q]? = H[q]?) → va_S A0 H0 H1 locs1 → W p l e R s m args below meth c H1 locs1 (cells + mc) (slots + ms) Q (F0 m (pc + 3) ls (rest))) : W p l e R s m args below meth c H locs cells slots Q (F0 m pc ls st0) := by
  intro T hT X
  rcases hr T hT X with ⟨v, st₀, t, T', L, h0, X', hL, e1, e2, ⟨⟨u, hv, hp, hb⟩, hF⟩, st⟩ | ⟨q, st₀, t, T', L, E, ce, h0, X', hL, e1, e2, ⟨u, hp, hb, hF⟩, hce, hcv, hcl, st⟩
  · cases hv
    obtain ⟨k1, k2, k3⟩ := vx_keep h0 e1 hS hA hf hL hF
    obtain ⟨t2, a1, b1⟩ := kk u t T'.heap (locs ++ L) e1.symm (by rw [← e2]; exact X'.warmed.alike) hp hb k1 k2 k3 T' rfl X'
    exact ⟨t2, st t2 a1, b1⟩
  · obtain ⟨k1, k2, k3⟩ := vx_keep h0 e1 hS hAX hf hL hF
    obtain ⟨t2, a1, b1⟩ := kx E ce q u t T'.heap (locs ++ L) e1.symm (by rw [← e2]; exact X'.warmed.alike) hp hb k1 k2 k3 (by rw [e1]; exact hce) hcv hcl T' rfl X'
    exact ⟨t2, st.trans a1, b1⟩
/-- caught by the row x of this method's table; the rows ahead don't take it -/
theorem vx_catch {own name : String} {E : String} {ce : Cell} {q : Addr} (hown : s.vm.findClass own = some m.cls) (pre : List ExceptionTableEntry) (x : ExceptionTableEntry) (suf : List ExceptionTableEntry) (hsplit : c.exceptionTable.toList = pre ++ x :: suf)
    (hpass : ∀ z ∈ pre, covers z pc = false ∨ (z.catchType ≠ 0 ∧ ∃ nm : String, (Cond.classLink own z.catchType nm).before args s = true ∧ va_Nc E nm s)) (hx : covers x pc = true) (h0 : x.catchType ≠ 0)
    (hlink : (Cond.classLink own x.catchType name).before args s = true) (hcast : (Cond.castable E name).before args s = true) (hcell : H[q]? = some ce) (hv : ce.vm = .none) (hcl : s.vm.findClass E = some ce.cls)
    (kk : W p l e R s m args below meth c H locs cells slots Q (F0 m x.handlerPc ls [.ref q])) : vx_W p l e R s m args below meth c H locs cells slots Q (F0 m pc ls rest) q := by
  intro T hT X
  have hpl : e.platform.magicAccessors = ({} : Platform).magicAccessors := by rw [X.admits.platform]
  obtain ⟨c3, c4, hc3, hc4, hasg⟩ := Cond.castable_spec hcast
  cases Option.some.inj (hc3.symm.trans hcl)
  obtain ⟨c5, hc5, hcl5⟩ := Cond.classLink_spec hown hlink e.platform hpl
  cases Option.some.inj (hc4.symm.trans hc5)
  obtain ⟨vm', X', st⟩ := X.thenCaughtThrough q (g := F0 m pc ls rest) rfl (Steps.refl _) (by rw [hT]; exact hcell) (by rw [hv]; rfl) (by obtain ⟨k9, h9, -⟩ := Vm.findClass_spec hcl; exact ⟨k9, h9⟩) pre x suf hsplit
    (fun z hz => by
      rcases hpass z hz with h | ⟨hz0, nm, hl1, hn1⟩
      · exact Or.inl h
      · obtain ⟨c6, hc6, hcl6⟩ := Cond.classLink_spec hown hl1 e.platform hpl
        obtain ⟨a8, b8, h1, h2, h3⟩ := hn1
        cases Option.some.inj (h1.symm.trans hcl)
        cases Option.some.inj (h2.symm.trans hc6)
        exact Or.inr ⟨hz0, _, hcl6, h3⟩) hx (Or.inr ⟨h0, c4, hcl5, hasg⟩)
  obtain ⟨t, a1, b1⟩ := kk (T.setVm vm') hT X'
  exact ⟨t, st.trans a1, b1⟩
end Rows
section Ends
variable {p : Program} {l : Launch} {e : Env} {R : Room} {s : State} {m : MethodId} {args : Array Value} {below : List Frame} {meth : Method} {c : Code} {H : Heap} {locs : List Loc} {cells slots : Nat} {Q : State → Prop}
variable {mc ms : Nat} {free : Addr → Prop} {A0 A1 : Nat → Prop} {H0 : Heap} {a : Array Value} {ls : Array Slot} {st0 rest : List Value}
variable {Qc : Array Value → State → Outcome → State → Prop} {XC : String → State → State → Prop}
/-- what a body that may throw owes at its end -/
def vx_MQ (below : List Frame) (Qc : Array Value → State → Outcome → State → Prop) (XC : String → State → State → Prop) (a : Array Value) (s : State) (mc ms : Nat) (free : Addr → Prop) : State → Prop := fun t =>
  ∃ o, t.status = .running ∧ Ended t below o ∧ vx_Q Qc XC mc ms free a s o t
theorem vx_ret {g : JFrame} {mc ms : Nat} (k : W p l e R s m args below meth c H locs cells slots (MQ below Qc args s mc ms free) g) : W p l e R s m args below meth c H locs cells slots (vx_MQ below Qc XC args s mc ms free) g := by
  intro T hT X
  obtain ⟨t, a1, o, b1, b2, b3, b4⟩ := k T hT X
  exact ⟨t, a1, o, b1, b2, Or.inl ⟨b3, b4⟩⟩
/-- not caught here: it goes on to the caller -/
theorem vx_widen {g : JFrame} {q : Addr} {k n : Nat} (h1 : cells ≤ k) (h2 : slots ≤ n) (kk : vx_W p l e R s m args below meth c H locs k n Q g q) : vx_W p l e R s m args below meth c H locs cells slots Q g q := fun T hT X => kk T hT (stand_widen X h1 h2)
theorem vx_out {pc : Nat} {E : String} {ce : Cell} {q : Addr} {mc ms : Nat} (hout : ∀ x ∈ c.exceptionTable.toList, covers x pc = false) (hlocks : meth.locks = false) (hcell : H[q]? = some ce) (hv : ce.vm = .none) (hcl : s.vm.findClass E = some ce.cls)
    (hx : ∀ t : State, t.heap = H → s.vm.Alike t.vm → XC E s t) (hf : ∀ z ∈ locs, free z.base) (hc : cells ≤ mc) (hs : slots ≤ ms) :
    vx_W p l e R s m args below meth c H locs cells slots (vx_MQ below Qc XC args s mc ms free) (F0 m pc ls rest) q := by
  intro T hT X
  obtain ⟨st1, hrun, hend, hW, hsm⟩ := X.leaveThrown q (g := F0 m pc ls rest) rfl rfl rfl hout hlocks
  have hcell9 : (T.setFrames (.throwing q :: below)).heap[q]? = some ce := by
    show T.heap[q]? = some ce
    rw [hT]; exact hcell
  exact ⟨_, st1, .threw q, hrun, hend, Or.inr ⟨q, rfl, E, ce, locs, hx _ hT hW.alike, hcell9, hv, hcl, hW, hsm.mono hc hs, hf⟩⟩
theorem vx_frame {U : State} {k n : Nat} (h : s.sameButNew ({ U with vm := s.vm } : State) locs k n) : s.heap.size ≤ U.heap.size ∧ ∀ q : Nat, q < s.heap.size → (∀ z ∈ locs, z.base ≠ q) → U.heap[q]? = s.heap[q]? := by
  obtain ⟨-, h2, -, -, -, h6⟩ := h
  refine ⟨h2, fun q hq hz => ?_⟩
  obtain ⟨c9, e1, e2, e3, e4⟩ := h6 q _ (Array.getElem?_eq_getElem hq)
  have hs : c9.slots = (s.heap[q]).slots := Array.ext_getElem? fun i => e4 i fun hm => hz _ hm rfl
  have h9 : c9 = s.heap[q] := by
    rw [hs] at e2
    exact e2
  have e5 : U.heap[q]? = some c9 := e1
  rw [e5, h9, Array.getElem?_eq_getElem hq]
/-- the words of a throw but the four that speak of the heap -/
def vx_no (w : Cond) : Bool := decide (w ≠ .isRef (.static Bundle.tN "UNASSIGNED_STACK" Bundle.steD)) && decide (w ≠ .isRef (.static Bundle.tN "SUPPRESSED_SENTINEL" Bundle.listD)) && decide (w ≠ .laysStatic Bundle.tN "UNASSIGNED_STACK" Bundle.steD) && decide (w ≠ .laysStatic Bundle.tN "SUPPRESSED_SENTINEL" Bundle.listD)
def vx_at0 (own : String) (ic : Nat) (X : String) (names : List String) : List Cond := (Bundle.ownAtoms0 own ic X names).filter vx_no
def vx_atS (own : String) (ic : Nat) (X : String) (names : List String) : List Cond := (Bundle.ownAtoms own ic X names).filter vx_no
/-- a word that the tables alone decide, or a good one -/
def vx_ot (w : Cond) : Bool := w.onTables || goodWord w
theorem vx_ot_at {args a' : Array Value} {s U : State} {w : Cond} (hW : s.WarmedH U.vm) (hvm : s.vm = U.vm) (hg : vx_ot w = true) (h : w.before args s = true) : w.before a' U = true := by
  simp only [vx_ot, Bool.or_eq_true] at hg
  rcases hg with hg | hg
  · exact va_tabs hg hvm h
  · exact word_at hW (good_of_word hg) h
/-- a list's words: the good ones out of the method's own list, the others by premises of their own -/
theorem vx_hat {args : Array Value} {s : State} {L B : List Cond} (h1 : ∀ w ∈ L.filter goodWord, w.before args s = true) (h2 : ∀ w ∈ L.filter (fun w => !goodWord w), w ∈ B) (h3 : ∀ w ∈ B, w.before args s = true) : ∀ w ∈ L, w.before args s = true := by
  intro w hw
  by_cases g : goodWord w = true
  · exact h1 w (List.mem_filter.mpr ⟨hw, g⟩)
  · refine h3 w (h2 w (List.mem_filter.mpr ⟨hw, ?_⟩))
    show (!goodWord w) = true
    cases hgw : goodWord w
    · rfl
    · exact absurd hgw g
theorem vx_c {args : Array Value} {s : State} {w : Cond} {B : List Cond} (h : w.before args s = true) (t : ∀ w ∈ B, w.before args s = true) : ∀ w' ∈ w :: B, w'.before args s = true := fun w' h' => (List.mem_cons.mp h').elim (fun e => by rw [e]; exact h) (t w')
theorem vx_n {args : Array Value} {s : State} : ∀ w ∈ ([] : List Cond), w.before args s = true := fun _ h => nomatch h
theorem vx_own {args : Array Value} {s : State} {L : List Cond} (h1 : ∀ w ∈ L.filter vx_no, w.before args s = true)
    (hU : (Cond.isRef (.static Bundle.tN "UNASSIGNED_STACK" Bundle.steD)).before args s = true) (hN : (Cond.isRef (.static Bundle.tN "SUPPRESSED_SENTINEL" Bundle.listD)).before args s = true)
    (lU : (Cond.laysStatic Bundle.tN "UNASSIGNED_STACK" Bundle.steD).before args s = true) (lN : (Cond.laysStatic Bundle.tN "SUPPRESSED_SENTINEL" Bundle.listD).before args s = true) : ∀ w ∈ L, w.before args s = true := by
  intro w hw
  by_cases e1 : w = .isRef (.static Bundle.tN "UNASSIGNED_STACK" Bundle.steD)
  · rw [e1]; exact hU
  · by_cases e2 : w = .isRef (.static Bundle.tN "SUPPRESSED_SENTINEL" Bundle.listD)
    · rw [e2]; exact hN
    · by_cases e3 : w = .laysStatic Bundle.tN "UNASSIGNED_STACK" Bundle.steD
      · rw [e3]; exact lU
      · by_cases e4 : w = .laysStatic Bundle.tN "SUPPRESSED_SENTINEL" Bundle.listD
        · rw [e4]; exact lN
        · exact h1 w (List.mem_filter.mpr ⟨hw, by unfold vx_no; rw [decide_eq_true e1, decide_eq_true e2, decide_eq_true e3, decide_eq_true e4]; rfl⟩)
/-- where a static field lies, its class's statics cell in H -/
def vx_L (C n d : String) (A : Nat → Prop) (U : State) (H : Heap) : Prop := ∃ (c : ClassId) (k : Class) (i : Nat) (f : Field) (a : Nat) (cell : Cell), U.vm.findClass C = some c ∧ U.fieldFound? C n d = some (c, k, i, f) ∧ f.isStatic = true ∧ k.statics = some a ∧ H[a]? = some cell ∧ cell.vm.isStatics = true ∧ cell.cls = c ∧ f.slot < cell.slots.size ∧ k.staticTypes[f.slot]? = some f.type ∧ ¬ A a
theorem vx_L.moved {C n d : String} {A : Nat → Prop} {u U : State} {H : Heap} (hvm : u.vm.Alike U.vm) (h : vx_L C n d A u H) : vx_L C n d A U H := by
  obtain ⟨c, k, i, f, a, cell, h1, h2, h3, h4, h5, h6, h7, h8, h9, h10⟩ := h
  obtain ⟨k', hi', he⟩ := State.fieldFound?_setVm hvm h2
  exact ⟨c, k', i, f, a, cell, by rw [hvm.findClass]; exact h1, hi', h3, by rw [he]; exact h4, h5, h6, h7, h8, by rw [he]; exact h9, h10⟩
theorem vx_L.kept {C n d : String} {A : Nat → Prop} {U : State} {H H1 : Heap} (h : vx_L C n d A U H) (hq : ∀ a : Nat, a < H.size → ¬ A a → H1[a]? = H[a]?) : vx_L C n d A U H1 := by
  obtain ⟨c, k, i, f, a, cell, h1, h2, h3, h4, h5, h6, h7, h8, h9, h10⟩ := h
  exact ⟨c, k, i, f, a, cell, h1, h2, h3, h4, by rw [hq a (Array.getElem?_eq_some_iff.mp h5).1 h10]; exact h5, h6, h7, h8, h9, h10⟩
theorem vx_L.narrow {C n d : String} {A B : Nat → Prop} {U : State} {H : Heap} (h : vx_L C n d A U H) (hAB : ∀ q, B q → A q) : vx_L C n d B U H := by
  obtain ⟨c, k, i, f, a, cell, h1, h2, h3, h4, h5, h6, h7, h8, h9, h10⟩ := h
  exact ⟨c, k, i, f, a, cell, h1, h2, h3, h4, h5, h6, h7, h8, h9, fun z => h10 (hAB _ z)⟩
theorem vx_L.word {C n d : String} {A : Nat → Prop} {s : State} {args : Array Value} (h : vx_L C n d A s s.heap) : (Cond.laysStatic C n d).before args s = true := by
  obtain ⟨c, k, i, f, a, cell, h1, h2, h3, h4, h5, h6, h7, h8, h9, -⟩ := h
  show (Cond.laysStatic C n d).holds args s none s [] = true
  exact Cond.laysStatic_of h1 h2 h3 h4 h5 h6 h7 h8 h9
/-- .. and what it holds: null or some reference -/
def vx_Zq (C n d : String) (A : Nat → Prop) (U : State) (H : Heap) : Prop := va_Zq C n d A U H ∧ vx_L C n d A U H
theorem vx_Zq.moved {C n d : String} {A : Nat → Prop} {u U : State} {H : Heap} (hvm : u.vm.Alike U.vm) (h : vx_Zq C n d A u H) : vx_Zq C n d A U H := ⟨va_Zq.moved hvm h.1, vx_L.moved hvm h.2⟩
theorem vx_Zq.kept {C n d : String} {A : Nat → Prop} {U : State} {H H1 : Heap} (h : vx_Zq C n d A U H) (hq : ∀ a : Nat, a < H.size → ¬ A a → H1[a]? = H[a]?) : vx_Zq C n d A U H1 := ⟨va_Zq.kept h.1 hq, vx_L.kept h.2 hq⟩
theorem vx_Zq.narrow {C n d : String} {A B : Nat → Prop} {U : State} {H : Heap} (h : vx_Zq C n d A U H) (hAB : ∀ q, B q → A q) : vx_Zq C n d B U H := ⟨va_Zq.narrow h.1 hAB, vx_L.narrow h.2 hAB⟩
theorem vx_Zqof {args : Array Value} {s : State} {C n d : String} {A : Nat → Prop} (hl : (Cond.laysStatic C n d).before args s = true) (hini : (Cond.initialized C).before args s = true) (h : (Cond.isRef (.static C n d)).before args s = true) (hA : ∀ a : Nat, a < s.heap.size → ¬ A a) : vx_Zq C n d A s s.heap := by
  refine ⟨va_Zqof hl hini h hA, ?_⟩
  obtain ⟨c, k, i, f, a, cell, h1, h2, h3, h4, h5, h6, h7, h8, h9⟩ := Cond.laysStatic_spec hl
  exact ⟨c, k, i, f, a, cell, h1, h2, h3, h4, h5, h6, h7, h8, h9, hA a (Array.getElem?_eq_some_iff.mp h5).1⟩
theorem vx_isRef {C n d : String} {v : Value} {A : Nat → Prop} {s : State} {args : Array Value} (h : va_Z C n d v A s s.heap) (hv : v.isRef = true) : (Cond.isRef (.static C n d)).before args s = true := by
  obtain ⟨cf, kf, fi, f, a, cell, h1, h2, h3, h4, h5, h6, h7, -⟩ := h
  have he : (Term.static C n d).eval args s none [] s = some v := by
    simp [Term.eval, State.fieldNamed?, h1, h2, h4, h5, h6, h7]
  simp only [Cond.before, Cond.holds, Cond.value, he]
  cases v <;> simp_all [Value.isRef]
theorem vx_isRefq {C n d : String} {A : Nat → Prop} {s : State} {args : Array Value} (h : va_Zq C n d A s s.heap) : (Cond.isRef (.static C n d)).before args s = true := by
  rcases h with h | ⟨t, h⟩
  · exact vx_isRef h rfl
  · exact vx_isRef h rfl
/-- the same frame, seen from here: as if the method were called anew in this heap -/
theorem vx_rebase {T : State} (X : Stand p l e R s m args below meth c T locs cells slots) {R' : Room} (hf : R'.frames ≤ R.frames) (hl : R'.locals ≤ R.locals) (hc : cells + R'.cells ≤ R.cells) (hs : slots + R'.slots ≤ R.slots) :
    Stand p l e R' ((T.setVm s.vm).setFrames (.invoking m args :: below)) m args below meth c T [] 0 0 := by
  have htop : (T.setVm s.vm).topJava?.isSome := X.here.top
  have hF : ((T.setVm s.vm).setFrames (.invoking m args :: below)).frames = .invoking m args :: below := State.frames_setFrames _ (State.cur_lt_of_top htop)
  obtain ⟨g₀, hg0⟩ := Option.isSome_iff_exists.mp htop
  obtain ⟨r, hr⟩ := State.topJava?_eq_some.mp hg0
  have hl9 : e.platform.stackLimits (T.setVm s.vm).me = e.platform.stackLimits s.me := X.limits
  have hb9 : (T.setVm s.vm).me.stackBytes = s.me.stackBytes := X.bytes
  refine ⟨X.admits, X.cas, X.clock, hF, ?_, X.hears, X.method, X.code, X.here, X.tail, X.warmed, ?_, ?_, ?_⟩
  · have h := X.room
    have hU : ((T.setVm s.vm).setFrames (.invoking m args :: below)).localsInUse = s.localsInUse := by
      rw [State.localsInUse_invoking hF (meth := meth) (c := c) X.method X.code, State.localsInUse_invoking X.frames X.method X.code]
    simp only [State.hasRoom, Bool.and_eq_true, decide_eq_true_eq] at h ⊢
    obtain ⟨⟨⟨⟨h1, h2, h3, h4, h5, h6⟩, h7⟩, h8⟩, h9⟩ := h
    rw [X.frames, List.length_cons] at h2 h3
    have q1 := X.heapSize
    have q2 := X.used
    simp only [hF, hU, List.length_cons, State.stackLimits_setFrames, State.stackBytes_setFrames, hl9, hb9]
    refine ⟨⟨⟨⟨by omega, by omega, by omega, by omega, by omega, h6⟩, ?_⟩, ?_⟩, X.book⟩
    · show T.heap.size + R'.cells ≤ e.platform.maxCells
      omega
    · show T.slotsUsed + R'.slots ≤ e.platform.maxSlots
      omega
  · rw [State.stackLimits_setFrames]; rfl
  · rw [State.stackBytes_setFrames]; rfl
  · refine ⟨?_, Nat.le_refl _, Nat.le_refl _, ?_, ?_, fun a c9 h9 => ⟨c9, h9, rfl, rfl, fun _ _ => rfl⟩⟩
    · obtain ⟨t, ht, -⟩ := State.frames_cons hr
      show T.setVm s.vm = { ((T.setVm s.vm).setFrames (.invoking m args :: below)).setFrames (T.setVm s.vm).frames with heap := T.heap, slotsUsed := T.slotsUsed }
      rw [State.setFrames_setFrames, State.setFrames_self ht]
      rfl
    · show T.slotsUsed = T.slotsUsed + ((T.heap.toList.drop T.heap.size).map (·.slots.size)).sum
      rw [List.drop_eq_nil_of_le (Nat.le_of_eq Array.length_toList)]
      rfl
    · show ((T.heap.toList.drop T.heap.size).map (·.slots.size)).sum ≤ 0
      rw [List.drop_eq_nil_of_le (Nat.le_of_eq Array.length_toList)]
      exact Nat.le_refl _
/-- 'throw new E()': new; dup; invokespecial; athrow -/
theorem vx_throw0 {cc : ByteArray} {pc : Nat} (hexec : p.tables.exec = Jvm.exec) (hb : c.code = cc) (hl : l.stackTraces = false) {own cls : String} {names : List String} {ik ic mc ms : Nat} {A : Nat → Prop}
    (hown : s.vm.findClass own = some m.cls) (hcls : Bundle.fit cls = true) (hnames : ∀ n ∈ names, Bundle.fit n = true)
    (hk : (Cond.classLink own ik cls).before args s = true) (hini : (Cond.initialized cls).before args s = true) (hat : ∀ w ∈ vx_at0 own ic cls names, w.before args s = true)
    (hgood : ∀ w ∈ Cond.classLink own ik cls :: Cond.initialized cls :: vx_at0 own ic cls names, vx_ot w = true)
    (hU : vx_Zq Bundle.tN "UNASSIGNED_STACK" Bundle.steD A s s.heap) (hN : vx_Zq Bundle.tN "SUPPRESSED_SENTINEL" Bundle.listD A s s.heap) (hS : va_S A s.heap H locs) (hsize : ls.size = c.maxLocals)
    (d0 : decode cc pc = .ok (.new ik, 3)) (d3 : decode cc (pc + 3) = .ok (.dup, 1)) (d4 : decode cc (pc + 4) = .ok (.invokespecial ic, 3)) (d7 : decode cc (pc + 7) = .ok (.athrow, 1))
    (hout : ∀ x ∈ c.exceptionTable.toList, covers x (pc + 7) = false)
    (hRframes : names.length + 3 < R.frames) (hRlocals : (rest.map fun v => v.category).sum + (13 * (names.length + 1) + 42) ≤ R.locals) (hRcells : cells + 1 ≤ R.cells) (hRslots : slots + 6 ≤ R.slots) (hlocks : meth.locks = false)
    (hx : ∀ t : State, s.vm.Alike t.vm → H.size ≤ t.heap.size → (∀ q : Nat, q < H.size → t.heap[q]? = H[q]?) → XC cls s t)
    (hf : ∀ z ∈ locs, free z.base) (hc : cells + 1 ≤ mc) (hs : slots + 6 ≤ ms) :
    W p l e R s m args below meth c H locs cells slots (vx_MQ below Qc XC args s mc ms free) (F0 m pc ls rest) := by
  intro T hT X
  have htr : e.platform.stackTraces = false := (show e.platform.stackTraces = l.stackTraces by rw [X.admits.platform]).trans hl
  have Y := vx_rebase X (R' := { frames := R.frames, locals := R.locals, cells := 1, slots := 6 }) (Nat.le_refl _) (Nat.le_refl _) hRcells hRslots
  obtain ⟨s', hA⟩ : ∃ z, z = (T.setVm s.vm).setFrames (.invoking m args :: below) := ⟨_, rfl⟩
  rw [← hA] at Y
  have hvm : s'.vm = s.vm := by rw [hA]; rfl
  have hhp : s'.heap = H := by rw [hA]; exact hT
  have hW0 : s.WarmedH s'.vm := by rw [hvm]; exact State.WarmedH.refl s
  have hat' : ∀ w ∈ vx_at0 own ic cls names, w.before args s' = true := fun w hw => vx_ot_at hW0 hvm.symm (hgood w (List.mem_cons_of_mem _ (List.mem_cons_of_mem _ hw))) (hat w hw)
  have hk' : (Cond.classLink own ik cls).before args s' = true := vx_ot_at hW0 hvm.symm (hgood _ List.mem_cons_self) hk
  have hini' : (Cond.initialized cls).before args s' = true := vx_ot_at hW0 hvm.symm (hgood _ (List.mem_cons_of_mem _ List.mem_cons_self)) hini
  have hU' : vx_Zq Bundle.tN "UNASSIGNED_STACK" Bundle.steD A s' s'.heap := by rw [hhp]; exact vx_Zq.moved hW0.alike (hU.kept hS.2.1)
  have hN' : vx_Zq Bundle.tN "SUPPRESSED_SENTINEL" Bundle.listD A s' s'.heap := by rw [hhp]; exact vx_Zq.moved hW0.alike (hN.kept hS.2.1)
  have h : ∀ w ∈ Bundle.ownAtoms0 own ic cls names, w.before args s' = true := vx_own hat' (vx_isRefq hU'.1) (vx_isRefq hN'.1) hU'.2.word hN'.2.word
  have hown' : s'.vm.findClass own = some m.cls := by rw [hvm]; exact hown
  have hins : (Cond.instantiable cls 6).before args s' = true := h _ (by simp [Bundle.ownAtoms0])
  obtain ⟨vm₁, cX, kX, hfX, hkX, -, -, X₁, st1⟩ := Y.newCold hexec (own := own) (C := cls) (index := ik) (n := 6) hown' hk' hins hini'
    (g := F0 m pc ls rest) rfl (by rw [hb]; exact d0) (Nat.le_refl _) (Nat.le_refl _)
  generalize hT1 : (T.setVm vm₁).pushCell { cls := cX, slots := kX.instanceTypes.map defaultValue, vm := .none } = T1 at X₁ st1
  have hcat : (Value.ref T.heap.size).category = 1 := rfl
  have hcellA : T1.heap[T.heap.size]? = some (freshCell cX kX) := by rw [← hT1]; exact State.heap_pushCell_size _ _
  have d3' : decode c.code (pc + 3) = .ok (.dup, 1) := by rw [hb]; exact d3
  obtain ⟨U, hsteps, hrun, hend, hW, hsame, ce, hce, hO⟩ := X₁.ctorThrow0 hexec htr (own := own) (cls := cls) (names := names) (ic := ic) hown' hcls hnames h (fun x hx => nomatch hx) hfX hkX hcellA (by rw [hhp, hT]; exact Nat.le_refl _)
    (g := { method := m, pc := pc + 4, locals := ls, stack := .ref T.heap.size :: .ref T.heap.size :: rest, locked := none }) rfl hsize rfl rfl (rest := rest) rfl
    (by rw [hb]; exact d4) (by rw [hb]; exact d7) hout hRframes (by simp only [List.map_cons, List.sum_cons, hcat]; omega) hlocks
  obtain ⟨f1, f2⟩ := vx_frame hsame
  rw [hhp] at f1 f2
  have hWs : s.WarmedH U.vm := State.WarmedH.trans hW0 hW
  have hcl : s.vm.findClass cls = some ce.cls := by
    have h9 := hO.cls
    rw [hvm] at h9
    exact h9
  have hall : s.sameButNew ({ U with vm := s.vm } : State) locs mc ms := by
    subst hA
    obtain ⟨e1, e2⟩ := hsame
    rw [State.setFrames_setFrames] at e1
    have h2 : (T.setVm s.vm).sameButNew ({ U with vm := s.vm } : State) [] (0 + 1) (0 + 6) := ⟨e1, e2⟩
    have h3 := X.same.trans h2
    rw [List.append_nil] at h3
    exact h3.mono hc hs
  refine ⟨U, ?_, .threw T.heap.size, hrun, hend, Or.inr ⟨T.heap.size, rfl, cls, ce, locs, hx U hWs.alike f1 (fun q hq => f2 q hq (fun z hz => nomatch hz)), hce, hO.vm, hcl, hWs, hall, hf⟩⟩
  refine st1 _ ?_
  show Steps p.tables e below (T1.setTop { method := m, pc := pc + 3, locals := ls, stack := .ref T.heap.size :: rest, locked := none }) _
  jvm_step X₁.here [X₁.here.top, hexec, d3', Value.category]
  exact hsteps
/-- 'throw new E("text")': new; dup; ldc; invokespecial; athrow -/
theorem vx_throwS {cc : ByteArray} {pc : Nat} (hexec : p.tables.exec = Jvm.exec) (hb : c.code = cc) (hl : l.stackTraces = false) {own cls text : String} {names : List String} {ik is ic mc ms sa : Nat} {A : Nat → Prop}
    (hown : s.vm.findClass own = some m.cls) (hcls : Bundle.fit cls = true) (hnames : ∀ n ∈ names, Bundle.fit n = true)
    (hk : (Cond.classLink own ik cls).before args s = true) (hini : (Cond.initialized cls).before args s = true) (hstr : vk_R own is text sa s) (hat : ∀ w ∈ vx_atS own ic cls names, w.before args s = true)
    (hgood : ∀ w ∈ Cond.classLink own ik cls :: Cond.initialized cls :: vx_atS own ic cls names, vx_ot w = true)
    (hU : vx_Zq Bundle.tN "UNASSIGNED_STACK" Bundle.steD A s s.heap) (hN : vx_Zq Bundle.tN "SUPPRESSED_SENTINEL" Bundle.listD A s s.heap) (hS : va_S A s.heap H locs) (hsize : ls.size = c.maxLocals)
    (d0 : decode cc pc = .ok (.new ik, 3)) (d3 : decode cc (pc + 3) = .ok (.dup, 1)) (d4 : decode cc (pc + 4) = .ok (.ldc is, 2)) (d6 : decode cc (pc + 6) = .ok (.invokespecial ic, 3)) (d9 : decode cc (pc + 9) = .ok (.athrow, 1))
    (hout : ∀ x ∈ c.exceptionTable.toList, covers x (pc + 9) = false)
    (hRframes : names.length + 3 < R.frames) (hRlocals : (rest.map fun v => v.category).sum + (13 * (names.length + 1) + 43) ≤ R.locals) (hRcells : cells + 1 ≤ R.cells) (hRslots : slots + 6 ≤ R.slots) (hlocks : meth.locks = false)
    (hx : ∀ t : State, s.vm.Alike t.vm → H.size ≤ t.heap.size → (∀ q : Nat, q < H.size → t.heap[q]? = H[q]?) → XC cls s t)
    (hf : ∀ z ∈ locs, free z.base) (hc : cells + 1 ≤ mc) (hs : slots + 6 ≤ ms) :
    W p l e R s m args below meth c H locs cells slots (vx_MQ below Qc XC args s mc ms free) (F0 m pc ls rest) := by
  intro T hT X
  have htr : e.platform.stackTraces = false := (show e.platform.stackTraces = l.stackTraces by rw [X.admits.platform]).trans hl
  have Y := vx_rebase X (R' := { frames := R.frames, locals := R.locals, cells := 1, slots := 6 }) (Nat.le_refl _) (Nat.le_refl _) hRcells hRslots
  obtain ⟨s', hA⟩ : ∃ z, z = (T.setVm s.vm).setFrames (.invoking m args :: below) := ⟨_, rfl⟩
  rw [← hA] at Y
  have hvm : s'.vm = s.vm := by rw [hA]; rfl
  have hhp : s'.heap = H := by rw [hA]; exact hT
  have hW0 : s.WarmedH s'.vm := by rw [hvm]; exact State.WarmedH.refl s
  have hat' : ∀ w ∈ vx_atS own ic cls names, w.before args s' = true := fun w hw => vx_ot_at hW0 hvm.symm (hgood w (List.mem_cons_of_mem _ (List.mem_cons_of_mem _ hw))) (hat w hw)
  have hk' : (Cond.classLink own ik cls).before args s' = true := vx_ot_at hW0 hvm.symm (hgood _ List.mem_cons_self) hk
  have hini' : (Cond.initialized cls).before args s' = true := vx_ot_at hW0 hvm.symm (hgood _ (List.mem_cons_of_mem _ List.mem_cons_self)) hini
  have hU' : vx_Zq Bundle.tN "UNASSIGNED_STACK" Bundle.steD A s' s'.heap := by rw [hhp]; exact vx_Zq.moved hW0.alike (hU.kept hS.2.1)
  have hN' : vx_Zq Bundle.tN "SUPPRESSED_SENTINEL" Bundle.listD A s' s'.heap := by rw [hhp]; exact vx_Zq.moved hW0.alike (hN.kept hS.2.1)
  have h : ∀ w ∈ Bundle.ownAtoms own ic cls names, w.before args s' = true := vx_own hat' (vx_isRefq hU'.1) (vx_isRefq hN'.1) hU'.2.word hN'.2.word
  have hown' : s'.vm.findClass own = some m.cls := by rw [hvm]; exact hown
  have hins : (Cond.instantiable cls 6).before args s' = true := h _ (by simp [Bundle.ownAtoms])
  obtain ⟨vm₁, cX, kX, hfX, hkX, -, -, X₁, st1⟩ := Y.newCold hexec (own := own) (C := cls) (index := ik) (n := 6) hown' hk' hins hini'
    (g := F0 m pc ls rest) rfl (by rw [hb]; exact d0) (Nat.le_refl _) (Nat.le_refl _)
  generalize hT1 : (T.setVm vm₁).pushCell { cls := cX, slots := kX.instanceTypes.map defaultValue, vm := .none } = T1 at X₁ st1
  have hcat : (Value.ref T.heap.size).category = 1 := rfl
  have hcellA : T1.heap[T.heap.size]? = some (freshCell cX kX) := by rw [← hT1]; exact State.heap_pushCell_size _ _
  have d3' : decode c.code (pc + 3) = .ok (.dup, 1) := by rw [hb]; exact d3
  have d4' : decode c.code (pc + 4) = .ok (.ldc is, 2) := by rw [hb]; exact d4
  have hstr' : vk_R own is text sa s' := vk_R.warm hW0 hstr
  obtain ⟨U, hsteps, hrun, hend, hW, hsame, ce, hce, hO⟩ := X₁.ctorThrowS hexec htr (own := own) (cls := cls) (names := names) (ic := ic) hown' hcls hnames h (fun x hx => nomatch hx) hfX hkX hcellA (by rw [hhp, hT]; exact Nat.le_refl _) (msg := .ref sa) rfl
    (g := { method := m, pc := pc + 6, locals := ls, stack := .ref sa :: .ref T.heap.size :: .ref T.heap.size :: rest, locked := none }) rfl hsize rfl rfl (rest := rest) rfl
    (by rw [hb]; exact d6) (by rw [hb]; exact d9) hout hRframes (by simp only [List.map_cons, List.sum_cons, hcat]; omega) hlocks
  obtain ⟨f1, f2⟩ := vx_frame hsame
  rw [hhp] at f1 f2
  have hWs : s.WarmedH U.vm := State.WarmedH.trans hW0 hW
  have hcl : s.vm.findClass cls = some ce.cls := by
    have h9 := hO.cls
    rw [hvm] at h9
    exact h9
  have hall : s.sameButNew ({ U with vm := s.vm } : State) locs mc ms := by
    subst hA
    obtain ⟨e1, e2⟩ := hsame
    rw [State.setFrames_setFrames] at e1
    have h2 : (T.setVm s.vm).sameButNew ({ U with vm := s.vm } : State) [] (0 + 1) (0 + 6) := ⟨e1, e2⟩
    have h3 := X.same.trans h2
    rw [List.append_nil] at h3
    exact h3.mono hc hs
  refine ⟨U, ?_, .threw T.heap.size, hrun, hend, Or.inr ⟨T.heap.size, rfl, cls, ce, locs, hx U hWs.alike f1 (fun q hq => f2 q hq (fun z hz => nomatch hz)), hce, hO.vm, hcl, hWs, hall, hf⟩⟩
  refine st1 _ ?_
  show Steps p.tables e below (T1.setTop { method := m, pc := pc + 3, locals := ls, stack := .ref T.heap.size :: rest, locked := none }) _
  jvm_step X₁.here [X₁.here.top, hexec, d3', Value.category]
  exact X₁.ldcString hexec (own := own) (text := text) (index := is) (a := sa) hown' hstr'.1 hstr'.2
    (g := { method := m, pc := pc + 4, locals := ls, stack := .ref T.heap.size :: .ref T.heap.size :: rest, locked := none }) rfl d4' _ hsteps
/-- 'throw new E("text")', the text by a wide index -/
theorem vx_throwSW {cc : ByteArray} {pc : Nat} (hexec : p.tables.exec = Jvm.exec) (hb : c.code = cc) (hl : l.stackTraces = false) {own cls text : String} {names : List String} {ik is ic mc ms sa : Nat} {A : Nat → Prop}
    (hown : s.vm.findClass own = some m.cls) (hcls : Bundle.fit cls = true) (hnames : ∀ n ∈ names, Bundle.fit n = true)
    (hk : (Cond.classLink own ik cls).before args s = true) (hini : (Cond.initialized cls).before args s = true) (hstr : vk_R own is text sa s) (hat : ∀ w ∈ vx_atS own ic cls names, w.before args s = true)
    (hgood : ∀ w ∈ Cond.classLink own ik cls :: Cond.initialized cls :: vx_atS own ic cls names, vx_ot w = true)
    (hU : vx_Zq Bundle.tN "UNASSIGNED_STACK" Bundle.steD A s s.heap) (hN : vx_Zq Bundle.tN "SUPPRESSED_SENTINEL" Bundle.listD A s s.heap) (hS : va_S A s.heap H locs) (hsize : ls.size = c.maxLocals)
    (d0 : decode cc pc = .ok (.new ik, 3)) (d3 : decode cc (pc + 3) = .ok (.dup, 1)) (d4 : decode cc (pc + 4) = .ok (.ldc_w is, 3)) (d7 : decode cc (pc + 7) = .ok (.invokespecial ic, 3)) (d10 : decode cc (pc + 10) = .ok (.athrow, 1))
    (hout : ∀ x ∈ c.exceptionTable.toList, covers x (pc + 10) = false)
    (hRframes : names.length + 3 < R.frames) (hRlocals : (rest.map fun v => v.category).sum + (13 * (names.length + 1) + 43) ≤ R.locals) (hRcells : cells + 1 ≤ R.cells) (hRslots : slots + 6 ≤ R.slots) (hlocks : meth.locks = false)
    (hx : ∀ t : State, s.vm.Alike t.vm → H.size ≤ t.heap.size → (∀ q : Nat, q < H.size → t.heap[q]? = H[q]?) → XC cls s t)
    (hf : ∀ z ∈ locs, free z.base) (hc : cells + 1 ≤ mc) (hs : slots + 6 ≤ ms) :
    W p l e R s m args below meth c H locs cells slots (vx_MQ below Qc XC args s mc ms free) (F0 m pc ls rest) := by
  intro T hT X
  have htr : e.platform.stackTraces = false := (show e.platform.stackTraces = l.stackTraces by rw [X.admits.platform]).trans hl
  have Y := vx_rebase X (R' := { frames := R.frames, locals := R.locals, cells := 1, slots := 6 }) (Nat.le_refl _) (Nat.le_refl _) hRcells hRslots
  obtain ⟨s', hA⟩ : ∃ z, z = (T.setVm s.vm).setFrames (.invoking m args :: below) := ⟨_, rfl⟩
  rw [← hA] at Y
  have hvm : s'.vm = s.vm := by rw [hA]; rfl
  have hhp : s'.heap = H := by rw [hA]; exact hT
  have hW0 : s.WarmedH s'.vm := by rw [hvm]; exact State.WarmedH.refl s
  have hat' : ∀ w ∈ vx_atS own ic cls names, w.before args s' = true := fun w hw => vx_ot_at hW0 hvm.symm (hgood w (List.mem_cons_of_mem _ (List.mem_cons_of_mem _ hw))) (hat w hw)
  have hk' : (Cond.classLink own ik cls).before args s' = true := vx_ot_at hW0 hvm.symm (hgood _ List.mem_cons_self) hk
  have hini' : (Cond.initialized cls).before args s' = true := vx_ot_at hW0 hvm.symm (hgood _ (List.mem_cons_of_mem _ List.mem_cons_self)) hini
  have hU' : vx_Zq Bundle.tN "UNASSIGNED_STACK" Bundle.steD A s' s'.heap := by rw [hhp]; exact vx_Zq.moved hW0.alike (hU.kept hS.2.1)
  have hN' : vx_Zq Bundle.tN "SUPPRESSED_SENTINEL" Bundle.listD A s' s'.heap := by rw [hhp]; exact vx_Zq.moved hW0.alike (hN.kept hS.2.1)
  have h : ∀ w ∈ Bundle.ownAtoms own ic cls names, w.before args s' = true := vx_own hat' (vx_isRefq hU'.1) (vx_isRefq hN'.1) hU'.2.word hN'.2.word
  have hown' : s'.vm.findClass own = some m.cls := by rw [hvm]; exact hown
  have hins : (Cond.instantiable cls 6).before args s' = true := h _ (by simp [Bundle.ownAtoms])
  obtain ⟨vm₁, cX, kX, hfX, hkX, -, -, X₁, st1⟩ := Y.newCold hexec (own := own) (C := cls) (index := ik) (n := 6) hown' hk' hins hini'
    (g := F0 m pc ls rest) rfl (by rw [hb]; exact d0) (Nat.le_refl _) (Nat.le_refl _)
  generalize hT1 : (T.setVm vm₁).pushCell { cls := cX, slots := kX.instanceTypes.map defaultValue, vm := .none } = T1 at X₁ st1
  have hcat : (Value.ref T.heap.size).category = 1 := rfl
  have hcellA : T1.heap[T.heap.size]? = some (freshCell cX kX) := by rw [← hT1]; exact State.heap_pushCell_size _ _
  have d3' : decode c.code (pc + 3) = .ok (.dup, 1) := by rw [hb]; exact d3
  have d4' : decode c.code (pc + 4) = .ok (.ldc_w is, 3) := by rw [hb]; exact d4
  have hstr' : vk_R own is text sa s' := vk_R.warm hW0 hstr
  obtain ⟨U, hsteps, hrun, hend, hW, hsame, ce, hce, hO⟩ := X₁.ctorThrowS hexec htr (own := own) (cls := cls) (names := names) (ic := ic) hown' hcls hnames h (fun x hx => nomatch hx) hfX hkX hcellA (by rw [hhp, hT]; exact Nat.le_refl _) (msg := .ref sa) rfl
    (g := { method := m, pc := pc + 7, locals := ls, stack := .ref sa :: .ref T.heap.size :: .ref T.heap.size :: rest, locked := none }) rfl hsize rfl rfl (rest := rest) rfl
    (by rw [hb]; exact d7) (by rw [hb]; exact d10) hout hRframes (by simp only [List.map_cons, List.sum_cons, hcat]; omega) hlocks
  obtain ⟨f1, f2⟩ := vx_frame hsame
  rw [hhp] at f1 f2
  have hWs : s.WarmedH U.vm := State.WarmedH.trans hW0 hW
  have hcl : s.vm.findClass cls = some ce.cls := by
    have h9 := hO.cls
    rw [hvm] at h9
    exact h9
  have hall : s.sameButNew ({ U with vm := s.vm } : State) locs mc ms := by
    subst hA
    obtain ⟨e1, e2⟩ := hsame
    rw [State.setFrames_setFrames] at e1
    have h2 : (T.setVm s.vm).sameButNew ({ U with vm := s.vm } : State) [] (0 + 1) (0 + 6) := ⟨e1, e2⟩
    have h3 := X.same.trans h2
    rw [List.append_nil] at h3
    exact h3.mono hc hs
  refine ⟨U, ?_, .threw T.heap.size, hrun, hend, Or.inr ⟨T.heap.size, rfl, cls, ce, locs, hx U hWs.alike f1 (fun q hq => f2 q hq (fun z hz => nomatch hz)), hce, hO.vm, hcl, hWs, hall, hf⟩⟩
  refine st1 _ ?_
  show Steps p.tables e below (T1.setTop { method := m, pc := pc + 3, locals := ls, stack := .ref T.heap.size :: rest, locked := none }) _
  jvm_step X₁.here [X₁.here.top, hexec, d3', Value.category]
  exact X₁.ldcStringW hexec (own := own) (text := text) (index := is) (a := sa) hown' hstr'.1 hstr'.2
    (g := { method := m, pc := pc + 4, locals := ls, stack := .ref T.heap.size :: .ref T.heap.size :: rest, locked := none }) rfl d4' _ hsteps
end Ends
section Bodies
variable {l : Launch}
theorem vx_ofW {y : MethodName} {ws ws' : List Cond} {rm : Room} {Pc : Array Value → State → Prop} {Qc : Array Value → State → Outcome → State → Prop} {XC : String → State → State → Prop} {mc ms : Nat} {free : Addr → Prop} {cc : ByteArray} {maxL : Nat} {ret : Option FieldType}
    (hy : plainName y.cls = true) (hw : ws = Cond.code y cc maxL ret :: ws')
    (body : ∀ p e s m args below meth c s₁, BodyLoose p l y (headSpec ws rm) cc maxL ret e s m args below meth c s₁ → c.maxLocals = maxL → (∀ x ∈ c.exceptionTable.toList, False) → Pc args s →
      W p l e (headSpec ws rm).room s m args below meth c s.heap [] 0 0 (vx_MQ below Qc XC args s mc ms free) (entryFrame m args maxL)) : vx_Met l y ws rm Pc Qc XC mc ms free := by
  refine MetFree.of_bodyS (code := cc) (maxLocals := maxL) (ret := ret) hy ?_ ?_
  · intro args s m h hn
    obtain ⟨meth, c, h1, h2, h3, h4, h5, h6, -, -⟩ := Cond.code_spec hn (atoms_spec (ws := ws) h _ (by rw [hw]; exact List.mem_cons_self))
    exact ⟨meth, c, h1, h2, h3, h4, h5, h6⟩
  · intro p e s m args below meth c s₁ B hml hP _
    have hh0 : s₁.heap = s.heap := by rw [B.state]; rfl
    have ht : ∀ x ∈ c.exceptionTable.toList, False := by
      obtain ⟨meth9, c9, h1, h2, -, -, -, -, h7, -⟩ := Cond.code_spec B.named (atoms_spec (ws := ws) B.pre _ (by rw [hw]; exact List.mem_cons_self))
      cases Option.some.inj (h1.symm.trans B.method)
      cases Option.some.inj (h2.symm.trans (Stand.of_body B).code)
      intro x hx
      rw [Array.isEmpty_iff.mp h7] at hx
      cases hx
    obtain ⟨t, a1, o, b1, b2, b3⟩ := body p e s m args below meth c s₁ B hml ht hP s₁ hh0 (Stand.of_body B)
    exact ⟨t, o, a1, b1, b2, b3⟩
/-- the table of a body with handlers -/
theorem vx_table {p : Program} {x y : MethodName} {S : Spec} {cc bytes : ByteArray} {maxL maxL' : Nat} {ret ret' : Option FieldType} {e : Env} {s s₁ : State} {m : MethodId} {args : Array Value} {below : List Frame} {meth : Method} {c : Code} {hh : List (Nat × Nat × Nat × Nat)}
    (B : BodyLoose p l y S cc maxL ret e s m args below meth c s₁) (h : (Cond.codeWith y bytes maxL' ret' hh).before args s = true) : c.exceptionTable.toList = tableOf hh := by
  obtain ⟨m9, meth9, c9, hn9, h1, h2, -, -, h6, -⟩ := Cond.codeWith_spec h
  cases Option.some.inj (hn9.symm.trans B.named)
  cases Option.some.inj (h1.symm.trans B.method)
  cases Option.some.inj (h2.symm.trans (Stand.of_body B).code)
  rw [← h6, table_eq]
end Bodies
end VXA
/-! ===== END ===== -/
/-! ===== BEGIN a static call of a method with an exception table ===== -/
section VXS
variable {p : Program} {l : Launch} {e : Env} {R : Room} {s : State} {m : MethodId} {args : Array Value} {below : List Frame} {meth : Method} {c : Code} {T : State} {H : Heap} {locs : List Loc} {cells slots : Nat}
abbrev vx_CSW (R : Room) (s : State) (args : Array Value) (own : String) (index : Nat) (y : MethodName) (bytes : ByteArray) (maxL : Nat) (ret : Option FieldType) (hh : List (Nat × Nat × Nat × Nat)) (ws : List Cond) (rm : Room) (mc ms n : Nat) : Prop :=
  (rm.cells = mc ∧ rm.slots = ms ∧ rm.frames + 1 ≤ R.frames ∧ 8 + (maxL + 11) + rm.locals ≤ R.locals ∧ (∀ w ∈ ws, ∀ (a' : Array Value) (U : State), s.WarmedH U.vm → w.before a' U = true) ∧ Cond.codeWith y bytes maxL ret hh ∈ ws) ∧
  (Cond.codeWith y bytes maxL ret hh).before args s = true ∧ (Cond.initialized y.cls).before args s = true ∧ (y.cls ≠ "java/lang/invoke/MethodHandle" ∧ y.cls ≠ "java/lang/invoke/VarHandle") ∧
  (∀ sig, parseMethodDescriptor y.desc = some sig → n = sig.parameters.length) ∧ (Cond.methodLink own index y).before args s = true ∧ (Cond.static y).before args s = true
theorem vx_cwSW {own : String} {index maxL mc ms : Nat} {y : MethodName} {bytes : ByteArray} {ret : Option FieldType} {hh : List (Nat × Nat × Nat × Nat)} {Ts ws ws' : List Cond} {rm : Room} (n : Nat) (ht : ∀ w ∈ Ts, w.before args s = true) (hT : GoodIn Ts (va_wsS own index y ws)) (hw : ws = Cond.codeWith y bytes maxL ret hh :: ws') (hrc : rm.cells = mc) (hrs : rm.slots = ms)
    (hd : y.cls ≠ "java/lang/invoke/MethodHandle" ∧ y.cls ≠ "java/lang/invoke/VarHandle" ∧ (parseMethodDescriptor y.desc).map (fun d => d.parameters.length) = some n) (hR : rm.frames + 1 ≤ R.frames ∧ 8 + (maxL + 11) + rm.locals ≤ R.locals) :
    vx_CSW R s args own index y bytes maxL ret hh ws rm mc ms n := by
  have ok : ∀ w ∈ va_wsS own index y ws, w.before args s = true := fun w h => ht w (hT w h).1
  have hG : GoodIn Ts ws := fun w h => hT w (by unfold va_wsS; exact List.mem_append_right _ h)
  have hc : Cond.codeWith y bytes maxL ret hh ∈ ws := by rw [hw]; exact List.mem_cons_self
  refine ⟨⟨hrc, hrs, hR.1, hR.2, pay_in ht hG, hc⟩, ht _ (hG _ hc).1, ok _ (by simp [va_wsS]), ⟨hd.1, hd.2.1⟩, fun sig h => ?_, ok _ (by simp [va_wsS]), ok _ (by simp [va_wsS])⟩
  have h2 := hd.2.2
  rw [h] at h2
  exact (Option.some.inj h2).symm
theorem vx_callSW (X : Stand p l e R s m args below meth c T locs cells slots) (hexec : p.tables.exec = Jvm.exec) {own : String} {index : Nat} {y : MethodName} {bytes : ByteArray} {maxL : Nat} {ret : Option FieldType} {hh : List (Nat × Nat × Nat × Nat)}
    (hown : s.vm.findClass own = some m.cls) (hlink : (Cond.methodLink own index y).before args s = true) (hstat : (Cond.static y).before args s = true) (hinit : (Cond.initialized y.cls).before args s = true)
    (hcode : (Cond.codeWith y bytes maxL ret hh).before args s = true) (hy : y.cls ≠ "java/lang/invoke/MethodHandle" ∧ y.cls ≠ "java/lang/invoke/VarHandle")
    {W9 : Nat} {Pre : Pt → Array Value → Prop} {Post : Pt → Array Value → Option Value → Pt → Prop} (hK : Back l R p e below s args y 3 W9 Pre Post)
    {g : JFrame} (hg : g.method = m) (hsize : g.locals.size = c.maxLocals) {argsL rest : List Value} (hlen : ∀ sig, parseMethodDescriptor y.desc = some sig → argsL.length = sig.parameters.length)
    (hstack : g.stack = argsL.reverse ++ rest) (hW : 2 * g.monitorRoom + (rest.map fun v => v.category).sum ≤ W9) (hdg : decode c.code g.pc = .ok (.invokestatic index, 3))
    (hpre : ∀ vm₁, s.WarmedH vm₁ → Pre ⟨T.setVm vm₁, locs, cells, slots⟩ argsL.toArray) :
    ∃ (v : Option Value) (vm₁ : Vm) (B : Pt), s.WarmedH vm₁ ∧ Stand p l e R s m args below meth c B.U B.locs B.cells B.slots ∧ Post ⟨T.setVm vm₁, locs, cells, slots⟩ argsL.toArray v B ∧
      ∀ target, Steps p.tables e below (B.U.setTop { g with pc := g.pc + 3, stack := v.toList ++ rest }) target → Steps p.tables e below (T.setTop g) target := by
  obtain ⟨mk, methM, cM, hnamed, hmethM, -, -, -, -, -, -, hsigM⟩ := Cond.codeWith_spec hcode
  have hstatic : methM.isStatic = true := Cond.static_spec hnamed hmethM hstat
  obtain ⟨kP, hkP, -⟩ := className_of_methodNamed hnamed
  have hinitP : kP.init = .initialized := Cond.initialized_spec (findClass_of_methodNamed hnamed) hkP hinit
  obtain ⟨vm₁, X₁, hstep₁⟩ := X.invokestatic hexec hown hlink hnamed hmethM hstatic hkP hinitP hy (g := g) hg (argsL := argsL) (rest := rest) (hlen _ hsigM) hstack hdg
  obtain ⟨v, B, X', hpost, hsteps⟩ := hK m meth c ⟨T.setVm vm₁, locs, cells, slots⟩ { g with stack := rest } (.invokestatic index) mk argsL.toArray X₁ hg hsize hdg hW (X₁.named hnamed) (hpre vm₁ X₁.warmed)
  exact ⟨v, vm₁, B, X₁.warmed, X', hpost, fun target h => hstep₁ _ fun acts => by rw [doInvoke_state]; exact hsteps.trans h⟩
theorem vx_runSW {y : MethodName} {bytes cc : ByteArray} {maxL nL mc ms n index : Nat} {ret : Option FieldType} {hh : List (Nat × Nat × Nat × Nat)} {ws : List Cond} {rm : Room} {Pc : Array Value → State → Prop} {Qc : Array Value → State → Outcome → State → Prop} {free : Addr → Prop} {Ts : List Cond} {own : String} {As rest : List Value} {g : JFrame}
    (S : CallFix p m c cc nL s args Ts own) (hM : Met l y ws rm Pc Qc mc ms free) (cw : vx_CSW R s args own index y bytes maxL ret hh ws rm mc ms n) (hp : PreS s H Pc As)
    (hg : g.method = m) (hn : As.length = n) (hsize : g.locals.size = nL) (hstack : g.stack = As.reverse ++ rest) (hW : 2 * g.monitorRoom + (rest.map fun v => v.category).sum ≤ 8) (hdg : decode cc g.pc = .ok (.invokestatic index, 3)) (hf : cells + mc ≤ R.cells ∧ slots + ms ≤ R.slots) :
    va_Run p l e R s m args below meth c H locs cells slots mc ms g rest (Qc As.toArray) (free) := by
  obtain ⟨⟨hrc, hrs, hfr, hlo, hws, hcw⟩, hcode, hini, hy, hlen, hl, hstt⟩ := cw
  have hK : Back l R p e below s args y 3 8 (PreOf R mc ms Pc) (PostOf Qc mc ms free) := va_backW (hh := hh) (bytes := bytes) (maxL := maxL) (ret := ret) hM hp.1 hrc hrs hfr hlo hws hcw (fun a' U hW => word_at hW (Or.inl (by first | rfl | simp [Cond.onTables, Cond.keeps, Cond.steady])) hini)
  obtain ⟨hx, hb, hml, ho, -⟩ := S
  intro T hT X
  obtain ⟨v, vm₁, ⟨U', l2, c2, s2⟩, hW₁, X', ⟨g', mk, t, L, e1, e2, hq, h1, hL, h2, h3⟩, st⟩ := vx_callSW X hx (hh := hh) (bytes := bytes) (maxL := maxL) (ret := ret) ho hl hstt hini hcode hy hK hg (hsize.trans hml.symm) (argsL := As) (rest := rest) (fun sig h => hn.trans (hlen sig h)) hstack hW (by rw [hb]; exact hdg)
    (fun vm₁ hW₁ => ⟨hf.1, hf.2, hp.2 (T.setVm vm₁) hT hW₁⟩)
  dsimp only [Pt.U, Pt.locs, Pt.cells, Pt.slots] at X' e1 e2 h1 h2 h3 st
  subst h1; subst h2; subst h3
  exact ⟨v, (T.setVm vm₁).calling g' mk As.toArray, t, U', L, hT, X', hL, e1, e2, hq, st⟩
/-- not caught here, past rows that name other classes: it goes on to the caller -/
theorem vx_outP {p : Program} {l : Launch} {e : Env} {R : Room} {s : State} {m : MethodId} {args : Array Value} {below : List Frame} {meth : Method} {c : Code} {H : Heap} {locs : List Loc} {cells slots : Nat} {free : Addr → Prop} {ls : Array Slot} {rest : List Value} {Qc : Array Value → State → Outcome → State → Prop} {XC : String → State → State → Prop}
    {pc : Nat} {own E : String} {ce : Cell} {q : Addr} {mc ms : Nat} (hown : s.vm.findClass own = some m.cls) (hlocks : meth.locks = false)
    (hpass : ∀ z ∈ c.exceptionTable.toList, covers z pc = false ∨ (z.catchType ≠ 0 ∧ ∃ nm : String, (Cond.classLink own z.catchType nm).before args s = true ∧ va_Nc E nm s)) (hcell : H[q]? = some ce) (hv : ce.vm = .none) (hcl : s.vm.findClass E = some ce.cls)
    (hx : ∀ t : State, t.heap = H → s.vm.Alike t.vm → XC E s t) (hf : ∀ z ∈ locs, free z.base) (hc : cells ≤ mc) (hs : slots ≤ ms) :
    vx_W p l e R s m args below meth c H locs cells slots (vx_MQ below Qc XC args s mc ms free) (F0 m pc ls rest) q := by
  intro T hT X
  have hpl : e.platform.magicAccessors = ({} : Platform).magicAccessors := by rw [X.admits.platform]
  obtain ⟨vm', hW', X', st⟩ := X.outThrough hlocks q (g := F0 m pc ls rest) rfl rfl rfl (cell := ce) (by rw [hT]; exact hcell) (by rw [hv]; rfl)
    (by obtain ⟨k9, h9, -⟩ := Vm.findClass_spec hcl; exact ⟨k9, h9⟩) (fun z hz => by
      rcases hpass z hz with h | ⟨hz0, nm, hl1, hn1⟩
      · exact Or.inl h
      · obtain ⟨c6, hc6, hcl6⟩ := Cond.classLink_spec hown hl1 e.platform hpl
        obtain ⟨a8, b8, h1, h2, h3⟩ := hn1
        cases Option.some.inj (h1.symm.trans hcl)
        cases Option.some.inj (h2.symm.trans hc6)
        exact Or.inr ⟨hz0, _, hcl6, h3⟩)
  obtain ⟨g₀, hfr⟩ := X'.frames_eq
  have hcell9 : ((T.setVm vm').setFrames (.throwing q :: below)).heap[q]? = some ce := by
    show T.heap[q]? = some ce
    rw [hT]; exact hcell
  have hend : Ended ((T.setVm vm').setFrames (.throwing q :: below)) below (.threw q) := State.frames_setFrames _ (State.cur_lt_of_frames hfr)
  refine ⟨(T.setVm vm').setFrames (.throwing q :: below), ?_, .threw q, X'.here.running, hend, Or.inr ⟨q, rfl, E, ce, locs, hx _ hT (X'.ends _).1.alike, hcell9, hv, hcl, (X'.ends _).1, (X'.ends _).2.mono hc hs, hf⟩⟩
  rw [X.pushThrowing_eq]
  exact st
/-- a thing of a world lies in the heap -/
theorem vx_lt {D : va_G} {cl : List vw_C} {ws : va_W} {H1 : Heap} (h : va_P D cl ws H1) {k : Nat} {q : Nat × va_E} (hk : ws[k]? = some q) : q.1 < H1.size := (h k q hk).lt
end VXS
/-! ===== END ===== -/
/-! ===== BEGIN methods with a table of their own: called by a name, returning or throwing ===== -/
section VXH
/-! vx_backW, vx_callVX, vx_callSX, vx_callVW, vx_runVW, vx_runVX, vx_runSX, vx_ofWH follow the same proofs as their sisters above (Free/Laws.lean, Shelf42/LK1.lean); vx_outP calls Shelf42/NT130.lean (outThrough). -/
section
variable {l : Launch} {R : Room} {p : Program} {e : Env} {below : List Frame} {s : State} {sargs : Array Value} {y : MethodName} {len W9 : Nat}
theorem vx_backW {ws : List Cond} {rm : Room} {Pc : Array Value → State → Prop} {Qc : Array Value → State → Outcome → State → Prop} {XC : String → State → State → Prop} {mc ms : Nat} {free : Addr → Prop} {bytes : ByteArray} {maxL : Nat} {ret : Option FieldType} {hh : List (Nat × Nat × Nat × Nat)}
    (hM : vx_Met l y ws rm Pc Qc XC mc ms free) (hblind : FrameBlind Pc) (hrc : rm.cells = mc) (hrs : rm.slots = ms)
    (hframes : rm.frames + 1 ≤ R.frames) (hlocals : W9 + (maxL + 11) + rm.locals ≤ R.locals)
    (hws : ∀ w ∈ ws, ∀ a' U, s.WarmedH U.vm → w.before a' U = true) (hcode : Cond.codeWith y bytes maxL ret hh ∈ ws) (hinit : ∀ a' U, s.WarmedH U.vm → (Cond.initialized y.cls).before a' U = true) :
    vx_Back l R p e below s sargs y len W9 (PreOf R mc ms Pc) (PostOf Qc mc ms free) (vx_Post XC mc ms free) := by
  intro m meth c A g ig mk a X hg hsize hdg hW hn hp
  have h1 : (headSpec ws rm).pre.before a A.U = true := atoms_intro fun w hw => hws w hw _ _ X.warmed
  have h2 : (Cond.codeWith y bytes maxL ret hh).before a A.U = true := hws _ hcode _ _ X.warmed
  have h3 : (Cond.initialized y.cls).before a A.U = true := hinit _ _ X.warmed
  have h4 : A.cells + (headSpec ws rm).room.cells ≤ R.cells := by rw [show (headSpec ws rm).room.cells = mc from hrc]; exact hp.1
  have h5 : A.slots + (headSpec ws rm).room.slots ≤ R.slots := by rw [show (headSpec ws rm).room.slots = ms from hrs]; exact hp.2.1
  have hPc : Pc a (A.U.calling g mk a) := hblind _ _ _ _ hp.2.2
  obtain ⟨U, Ls, c0, s0⟩ := A
  dsimp only [Pt.U, Pt.locs, Pt.cells, Pt.slots] at h1 h2 h3 h4 h5 X hn hPc ⊢
  obtain ⟨m9, methY, cY, hn9, hmY, hcY, -, hlY, -⟩ := Cond.codeWith_spec h2
  cases Option.some.inj (hn9.symm.trans hn)
  obtain ⟨kY, hkY, -⟩ := className_of_methodNamed hn
  have hinitY : kY.init = .initialized := Cond.initialized_spec (findClass_of_methodNamed hn) hkY h3
  have h : At U g.method c below := by rw [hg]; exact X.here
  have hlocals9 : W9 + (maxL + 11) + (headSpec ws rm).room.locals ≤ R.locals := hlocals
  have happ : (headSpec ws rm).appliesLoose y e.platform (U.calling g mk a) = true :=
    Spec.appliesLoose_calling (g := g) h hdg hn hkY hinitY
      (X.room_calling (g := g) (R' := (headSpec ws rm).room) hsize hmY hcY hframes (by rw [hlY]; omega) h4 h5) h1
  obtain ⟨mid, hmid⟩ := h.above
  have hfr : (U.setTop g).frames = (.java g :: mid) ++ below := by rw [State.frames_setTop' g h.top, hmid]; rfl
  obtain ⟨o, s₂, hsteps, -, hend, hq⟩ := Steps.callFree hM p X.admits X.cas X.clock (acts := []) hfr happ hPc trivial
  have hq' : vx_Q Qc XC mc ms free a (U.calling g mk a) o s₂ := hq
  rw [State.frames_setTop' g h.top] at hend
  obtain ⟨g₀, hg0⟩ := Option.isSome_iff_exists.mp h.top
  obtain ⟨r, hr⟩ := State.topJava?_eq_some.mp hg0
  have hr' : (({ U with heap := s₂.heap, slotsUsed := s₂.slotsUsed } : State).setVm s₂.vm).frames = .java g₀ :: r := hr
  rcases hq' with ⟨hqc, L, hfe, hL⟩ | ⟨q, rfl, E, ce, L, hx, hce, hcv, hcl, hW₂, hsm, hL⟩
  · obtain ⟨⟨v, rfl⟩, hW₂, e2, q2, q3, q4, q5, q6⟩ := id hfe
    have e3 : s₂ = ({ (U.calling g mk a).setFrames s₂.frames with heap := s₂.heap, slotsUsed := s₂.slotsUsed } : State).setVm s₂.vm := by
      have : s₂ = ({ s₂ with vm := (U.calling g mk a).vm } : State).setVm s₂.vm := rfl
      rw [e2] at this
      exact this
    obtain ⟨c₂, i₂, len₂, hc₂, hd₂, hf₂⟩ := hend
    have hW' : U.WarmedH s₂.vm := hW₂
    have hcc : c₂ = c := by
      have h1 : s₂.code? g.method = U.code? g.method := by
        rw [State.code?_eq, State.code?_eq, hW'.alike.method?]
      exact Option.some.inj (hc₂.symm.trans (h1.trans h.code))
    subst hcc
    have hlen : len₂ = len := by rw [hdg] at hd₂; cases hd₂; rfl
    subst hlen
    have hs₂ : s₂ = (({ U with heap := s₂.heap, slotsUsed := s₂.slotsUsed } : State).setVm s₂.vm).setTop { g with pc := g.pc + len₂, stack := v.toList ++ g.stack } := by
      refine e3.trans ?_
      rw [hf₂, State.calling_eq h.top, State.setFrames_setFrames, State.setTop_of_frames _ hr', hr]
      rfl
    have hsame : U.sameButNew ({ U with heap := s₂.heap, slotsUsed := s₂.slotsUsed } : State) L mc ms := by
      refine ⟨?_, q2, q3, q4, q5, q6⟩
      obtain ⟨t, ht, -⟩ := State.frames_cons hr
      show ({ U with heap := s₂.heap, slotsUsed := s₂.slotsUsed } : State) = { U.setFrames U.frames with heap := s₂.heap, slotsUsed := s₂.slotsUsed }
      rw [State.setFrames_self ht]
    subst hg
    refine Or.inl ⟨v, ⟨(({ U with heap := s₂.heap, slotsUsed := s₂.slotsUsed } : State).setVm s₂.vm), Ls ++ L, c0 + mc, s0 + ms⟩,
      ⟨X.admits, X.cas, X.clock, X.frames, X.room, X.hears, X.method, X.code, (X.here.setHeapUsed s₂.heap s₂.slotsUsed).setVm hW'.alike, X.tail, State.WarmedH.trans X.warmed hW', X.limits, X.bytes, X.same.trans (hsame.setVm s.vm)⟩,
      ⟨g, mk, s₂, L, rfl, rfl, hqc, rfl, hL, rfl, rfl⟩, ?_⟩
    show Steps p.tables e below _ ((({ U with heap := s₂.heap, slotsUsed := s₂.slotsUsed } : State).setVm s₂.vm).setTop { g with pc := g.pc + len₂, stack := v.toList ++ g.stack })
    rw [← hs₂]
    exact hsteps
  · obtain ⟨e2, q2, q3, q4, q5, q6⟩ := id hsm
    have e3 : s₂ = ({ (U.calling g mk a).setFrames s₂.frames with heap := s₂.heap, slotsUsed := s₂.slotsUsed } : State).setVm s₂.vm := by
      have : s₂ = ({ s₂ with vm := (U.calling g mk a).vm } : State).setVm s₂.vm := rfl
      rw [e2] at this
      exact this
    have hf₂ : s₂.frames = .throwing q :: .java g :: U.frames.tail := hend
    have hW' : U.WarmedH s₂.vm := hW₂
    have hs₂ : s₂ = ((({ U with heap := s₂.heap, slotsUsed := s₂.slotsUsed } : State).setVm s₂.vm).setTop g).pushFrame (.throwing q) := by
      refine e3.trans ?_
      rw [hf₂, State.calling_eq h.top, State.setFrames_setFrames, State.pushFrame, State.frames_setTop _ hr', State.setTop_of_frames _ hr', State.setFrames_setFrames, hr]
      rfl
    have hsame : U.sameButNew ({ U with heap := s₂.heap, slotsUsed := s₂.slotsUsed } : State) L mc ms := by
      refine ⟨?_, q2, q3, q4, q5, q6⟩
      obtain ⟨t, ht, -⟩ := State.frames_cons hr
      show ({ U with heap := s₂.heap, slotsUsed := s₂.slotsUsed } : State) = { U.setFrames U.frames with heap := s₂.heap, slotsUsed := s₂.slotsUsed }
      rw [State.setFrames_self ht]
    subst hg
    refine Or.inr ⟨q, ⟨(({ U with heap := s₂.heap, slotsUsed := s₂.slotsUsed } : State).setVm s₂.vm), Ls ++ L, c0 + mc, s0 + ms⟩,
      ⟨X.admits, X.cas, X.clock, X.frames, X.room, X.hears, X.method, X.code, (X.here.setHeapUsed s₂.heap s₂.slotsUsed).setVm hW'.alike, X.tail, State.WarmedH.trans X.warmed hW', X.limits, X.bytes, X.same.trans (hsame.setVm s.vm)⟩,
      ⟨g, mk, s₂, L, E, ce, rfl, rfl, hx, hce, hcv, hcl, rfl, hL, rfl, rfl⟩, ?_⟩
    show Steps p.tables e below _ (((({ U with heap := s₂.heap, slotsUsed := s₂.slotsUsed } : State).setVm s₂.vm).setTop g).pushFrame (.throwing q))
    rw [← hs₂]
    exact hsteps
end
variable {p : Program} {l : Launch} {e : Env} {R : Room} {s : State} {m : MethodId} {args : Array Value} {below : List Frame} {meth : Method} {c : Code} {T : State} {H : Heap} {locs : List Loc} {cells slots : Nat}
theorem vx_callVX (X : Stand p l e R s m args below meth c T locs cells slots) (hexec : p.tables.exec = Jvm.exec) {own C : String} {index : Nat} {y : MethodName} {bytes : ByteArray} {maxL : Nat} {ret : Option FieldType} {hh : List (Nat × Nat × Nat × Nat)}
    (hown : s.vm.findClass own = some m.cls) (hlink : (Cond.methodLink own index y).before args s = true) (hinst : (Cond.instanceMethod y).before args s = true) (hsel : (Cond.selects C y y).before args s = true)
    (hcode : (Cond.codeWith y bytes maxL ret hh).before args s = true) (hy : y.cls ≠ "java/lang/invoke/MethodHandle" ∧ y.cls ≠ "java/lang/invoke/VarHandle")
    {W9 : Nat} {Pre : Pt → Array Value → Prop} {Post : Pt → Array Value → Option Value → Pt → Prop} {PostX : Pt → Array Value → Addr → Pt → Prop} (hK : vx_Back l R p e below s args y 3 W9 Pre Post PostX)
    {b : Addr} {cellB : Cell} (hcell : T.heap[b]? = some cellB) (hobj : cellB.vm.isStatics = false) (hcls : s.vm.findClass C = some cellB.cls)
    {g : JFrame} (hg : g.method = m) (hsize : g.locals.size = c.maxLocals) {argsL rest : List Value} (hlen : ∀ sig, parseMethodDescriptor y.desc = some sig → argsL.length = sig.parameters.length)
    (hstack : g.stack = argsL.reverse ++ .ref b :: rest) (hW : 2 * g.monitorRoom + (rest.map fun v => v.category).sum ≤ W9) (hdg : decode c.code g.pc = .ok (.invokevirtual index, 3))
    (hpre : ∀ vm₁, s.WarmedH vm₁ → Pre ⟨T.setVm vm₁, locs, cells, slots⟩ (Value.ref b :: argsL).toArray) :
    (∃ (v : Option Value) (vm₁ : Vm) (B : Pt), s.WarmedH vm₁ ∧ Stand p l e R s m args below meth c B.U B.locs B.cells B.slots ∧ Post ⟨T.setVm vm₁, locs, cells, slots⟩ (Value.ref b :: argsL).toArray v B ∧
      ∀ target, Steps p.tables e below (B.U.setTop { g with pc := g.pc + 3, stack := v.toList ++ rest }) target → Steps p.tables e below (T.setTop g) target) ∨
    (∃ (q : Addr) (vm₁ : Vm) (B : Pt), s.WarmedH vm₁ ∧ Stand p l e R s m args below meth c B.U B.locs B.cells B.slots ∧ PostX ⟨T.setVm vm₁, locs, cells, slots⟩ (Value.ref b :: argsL).toArray q B ∧
      Steps p.tables e below (T.setTop g) ((B.U.setTop { g with stack := rest }).pushFrame (.throwing q))) := by
  obtain ⟨mk, methM, hnamed, hmethM, hstM, habM⟩ := Cond.instanceMethod_spec hinst
  obtain ⟨m8, methM', cM, hn8, hmethM', -, -, -, -, -, -, hsigM⟩ := Cond.codeWith_spec hcode
  cases Option.some.inj (hn8.symm.trans hnamed)
  cases hmethM.symm.trans hmethM'
  obtain ⟨c2, r2, m2, q1, q2, q3, q4, kP, hkP, hkPi⟩ := Cond.selects_spec hsel
  cases hcls.symm.trans q1
  cases (State.methodFound?_of_named hnamed hy).symm.trans q2
  cases hnamed.symm.trans q3
  have hselP : selectMethod e.platform s.vm cellB.cls mk = .method mk := by rw [Launch.admits_selectMethod X.admits]; exact q4
  obtain ⟨vm₁, X₁, hstep₁⟩ := X.invokevirtual hexec hown hlink hnamed hmethM hstM hkP hkPi hy (a := b) (cell := cellB) hcell
    (fun z h => by rw [h] at hobj; cases hobj) hselP hmethM habM hkP hkPi (g := g) hg (argsL := argsL) (rest := rest) (hlen _ hsigM) hstack hdg
  rcases hK m meth c ⟨T.setVm vm₁, locs, cells, slots⟩ { g with stack := rest } (.invokevirtual index) mk (Value.ref b :: argsL).toArray X₁ hg hsize hdg hW (X₁.named hnamed) (hpre vm₁ X₁.warmed) with ⟨v, B, X', hpost, hsteps⟩ | ⟨q, B, X', hpost, hsteps⟩
  · exact Or.inl ⟨v, vm₁, B, X₁.warmed, X', hpost, fun target h => hstep₁ _ fun acts => by rw [doInvoke_state]; exact hsteps.trans h⟩
  · exact Or.inr ⟨q, vm₁, B, X₁.warmed, X', hpost, hstep₁ _ fun acts => by rw [doInvoke_state]; exact hsteps⟩
theorem vx_callSX (X : Stand p l e R s m args below meth c T locs cells slots) (hexec : p.tables.exec = Jvm.exec) {own : String} {index : Nat} {y : MethodName} {bytes : ByteArray} {maxL : Nat} {ret : Option FieldType} {hh : List (Nat × Nat × Nat × Nat)}
    (hown : s.vm.findClass own = some m.cls) (hlink : (Cond.methodLink own index y).before args s = true) (hstat : (Cond.static y).before args s = true) (hinit : (Cond.initialized y.cls).before args s = true)
    (hcode : (Cond.codeWith y bytes maxL ret hh).before args s = true) (hy : y.cls ≠ "java/lang/invoke/MethodHandle" ∧ y.cls ≠ "java/lang/invoke/VarHandle")
    {W9 : Nat} {Pre : Pt → Array Value → Prop} {Post : Pt → Array Value → Option Value → Pt → Prop} {PostX : Pt → Array Value → Addr → Pt → Prop} (hK : vx_Back l R p e below s args y 3 W9 Pre Post PostX)
    {g : JFrame} (hg : g.method = m) (hsize : g.locals.size = c.maxLocals) {argsL rest : List Value} (hlen : ∀ sig, parseMethodDescriptor y.desc = some sig → argsL.length = sig.parameters.length)
    (hstack : g.stack = argsL.reverse ++ rest) (hW : 2 * g.monitorRoom + (rest.map fun v => v.category).sum ≤ W9) (hdg : decode c.code g.pc = .ok (.invokestatic index, 3))
    (hpre : ∀ vm₁, s.WarmedH vm₁ → Pre ⟨T.setVm vm₁, locs, cells, slots⟩ argsL.toArray) :
    (∃ (v : Option Value) (vm₁ : Vm) (B : Pt), s.WarmedH vm₁ ∧ Stand p l e R s m args below meth c B.U B.locs B.cells B.slots ∧ Post ⟨T.setVm vm₁, locs, cells, slots⟩ argsL.toArray v B ∧
      ∀ target, Steps p.tables e below (B.U.setTop { g with pc := g.pc + 3, stack := v.toList ++ rest }) target → Steps p.tables e below (T.setTop g) target) ∨
    (∃ (q : Addr) (vm₁ : Vm) (B : Pt), s.WarmedH vm₁ ∧ Stand p l e R s m args below meth c B.U B.locs B.cells B.slots ∧ PostX ⟨T.setVm vm₁, locs, cells, slots⟩ argsL.toArray q B ∧
      Steps p.tables e below (T.setTop g) ((B.U.setTop { g with stack := rest }).pushFrame (.throwing q))) := by
  obtain ⟨mk, methM, cM, hnamed, hmethM, -, -, -, -, -, -, hsigM⟩ := Cond.codeWith_spec hcode
  have hstatic : methM.isStatic = true := Cond.static_spec hnamed hmethM hstat
  obtain ⟨kP, hkP, -⟩ := className_of_methodNamed hnamed
  have hinitP : kP.init = .initialized := Cond.initialized_spec (findClass_of_methodNamed hnamed) hkP hinit
  obtain ⟨vm₁, X₁, hstep₁⟩ := X.invokestatic hexec hown hlink hnamed hmethM hstatic hkP hinitP hy (g := g) hg (argsL := argsL) (rest := rest) (hlen _ hsigM) hstack hdg
  rcases hK m meth c ⟨T.setVm vm₁, locs, cells, slots⟩ { g with stack := rest } (.invokestatic index) mk argsL.toArray X₁ hg hsize hdg hW (X₁.named hnamed) (hpre vm₁ X₁.warmed) with ⟨v, B, X', hpost, hsteps⟩ | ⟨q, B, X', hpost, hsteps⟩
  · exact Or.inl ⟨v, vm₁, B, X₁.warmed, X', hpost, fun target h => hstep₁ _ fun acts => by rw [doInvoke_state]; exact hsteps.trans h⟩
  · exact Or.inr ⟨q, vm₁, B, X₁.warmed, X', hpost, hstep₁ _ fun acts => by rw [doInvoke_state]; exact hsteps⟩
theorem vx_callVW (X : Stand p l e R s m args below meth c T locs cells slots) (hexec : p.tables.exec = Jvm.exec) {own C : String} {index : Nat} {y : MethodName} {bytes : ByteArray} {maxL : Nat} {ret : Option FieldType} {hh : List (Nat × Nat × Nat × Nat)}
    (hown : s.vm.findClass own = some m.cls) (hlink : (Cond.methodLink own index y).before args s = true) (hinst : (Cond.instanceMethod y).before args s = true) (hsel : (Cond.selects C y y).before args s = true)
    (hcode : (Cond.codeWith y bytes maxL ret hh).before args s = true) (hy : y.cls ≠ "java/lang/invoke/MethodHandle" ∧ y.cls ≠ "java/lang/invoke/VarHandle")
    {W9 : Nat} {Pre : Pt → Array Value → Prop} {Post : Pt → Array Value → Option Value → Pt → Prop} (hK : Back l R p e below s args y 3 W9 Pre Post)
    {b : Addr} {cellB : Cell} (hcell : T.heap[b]? = some cellB) (hobj : cellB.vm.isStatics = false) (hcls : s.vm.findClass C = some cellB.cls)
    {g : JFrame} (hg : g.method = m) (hsize : g.locals.size = c.maxLocals) {argsL rest : List Value} (hlen : ∀ sig, parseMethodDescriptor y.desc = some sig → argsL.length = sig.parameters.length)
    (hstack : g.stack = argsL.reverse ++ .ref b :: rest) (hW : 2 * g.monitorRoom + (rest.map fun v => v.category).sum ≤ W9) (hdg : decode c.code g.pc = .ok (.invokevirtual index, 3))
    (hpre : ∀ vm₁, s.WarmedH vm₁ → Pre ⟨T.setVm vm₁, locs, cells, slots⟩ (Value.ref b :: argsL).toArray) :
    ∃ (v : Option Value) (vm₁ : Vm) (B : Pt), s.WarmedH vm₁ ∧ Stand p l e R s m args below meth c B.U B.locs B.cells B.slots ∧ Post ⟨T.setVm vm₁, locs, cells, slots⟩ (Value.ref b :: argsL).toArray v B ∧
      ∀ target, Steps p.tables e below (B.U.setTop { g with pc := g.pc + 3, stack := v.toList ++ rest }) target → Steps p.tables e below (T.setTop g) target := by
  obtain ⟨mk, methM, hnamed, hmethM, hstM, habM⟩ := Cond.instanceMethod_spec hinst
  obtain ⟨m8, methM', cM, hn8, hmethM', -, -, -, -, -, -, hsigM⟩ := Cond.codeWith_spec hcode
  cases Option.some.inj (hn8.symm.trans hnamed)
  cases hmethM.symm.trans hmethM'
  obtain ⟨c2, r2, m2, q1, q2, q3, q4, kP, hkP, hkPi⟩ := Cond.selects_spec hsel
  cases hcls.symm.trans q1
  cases (State.methodFound?_of_named hnamed hy).symm.trans q2
  cases hnamed.symm.trans q3
  have hselP : selectMethod e.platform s.vm cellB.cls mk = .method mk := by rw [Launch.admits_selectMethod X.admits]; exact q4
  obtain ⟨vm₁, X₁, hstep₁⟩ := X.invokevirtual hexec hown hlink hnamed hmethM hstM hkP hkPi hy (a := b) (cell := cellB) hcell
    (fun z h => by rw [h] at hobj; cases hobj) hselP hmethM habM hkP hkPi (g := g) hg (argsL := argsL) (rest := rest) (hlen _ hsigM) hstack hdg
  obtain ⟨v, B, X', hpost, hsteps⟩ := hK m meth c ⟨T.setVm vm₁, locs, cells, slots⟩ { g with stack := rest } (.invokevirtual index) mk (Value.ref b :: argsL).toArray X₁ hg hsize hdg hW (X₁.named hnamed) (hpre vm₁ X₁.warmed)
  exact ⟨v, vm₁, B, X₁.warmed, X', hpost, fun target h => hstep₁ _ fun acts => by rw [doInvoke_state]; exact hsteps.trans h⟩
abbrev vx_CVW (R : Room) (s : State) (args : Array Value) (own C : String) (index : Nat) (y : MethodName) (bytes : ByteArray) (maxL : Nat) (ret : Option FieldType) (hh : List (Nat × Nat × Nat × Nat)) (ws : List Cond) (rm : Room) (mc ms n : Nat) : Prop :=
  (rm.cells = mc ∧ rm.slots = ms ∧ rm.frames + 1 ≤ R.frames ∧ 8 + (maxL + 11) + rm.locals ≤ R.locals ∧ (∀ w ∈ ws, ∀ (a' : Array Value) (U : State), s.WarmedH U.vm → w.before a' U = true) ∧ Cond.codeWith y bytes maxL ret hh ∈ ws) ∧
  (Cond.codeWith y bytes maxL ret hh).before args s = true ∧ (Cond.initialized y.cls).before args s = true ∧ (y.cls ≠ "java/lang/invoke/MethodHandle" ∧ y.cls ≠ "java/lang/invoke/VarHandle") ∧
  (∀ sig, parseMethodDescriptor y.desc = some sig → n = sig.parameters.length) ∧ (Cond.methodLink own index y).before args s = true ∧ (Cond.instanceMethod y).before args s = true ∧ (Cond.selects C y y).before args s = true
theorem vx_cwVW {own C : String} {index maxL mc ms : Nat} {y : MethodName} {bytes : ByteArray} {ret : Option FieldType} {hh : List (Nat × Nat × Nat × Nat)} {Ts ws ws' : List Cond} {rm : Room} (n : Nat) (ht : ∀ w ∈ Ts, w.before args s = true) (hT : GoodIn Ts (wsV own index C y ws)) (hw : ws = Cond.codeWith y bytes maxL ret hh :: ws') (hrc : rm.cells = mc) (hrs : rm.slots = ms)
    (hd : y.cls = C ∧ y.cls ≠ "java/lang/invoke/MethodHandle" ∧ y.cls ≠ "java/lang/invoke/VarHandle" ∧ (parseMethodDescriptor y.desc).map (fun d => d.parameters.length) = some n) (hR : rm.frames + 1 ≤ R.frames ∧ 8 + (maxL + 11) + rm.locals ≤ R.locals) :
    vx_CVW R s args own C index y bytes maxL ret hh ws rm mc ms n := by
  obtain ⟨hC, hd⟩ := hd
  subst hC
  have ok : ∀ w ∈ wsV own index y.cls y ws, w.before args s = true := fun w h => ht w (hT w h).1
  have hG : GoodIn Ts ws := fun w h => hT w (by unfold wsV; exact List.mem_append_right _ h)
  have hc : Cond.codeWith y bytes maxL ret hh ∈ ws := by rw [hw]; exact List.mem_cons_self
  refine ⟨⟨hrc, hrs, hR.1, hR.2, pay_in ht hG, hc⟩, ht _ (hG _ hc).1, ok _ (by simp [wsV]), ⟨hd.1, hd.2.1⟩, fun sig h => ?_, ok _ (by simp [wsV]), ok _ (by simp [wsV]), ok _ (by simp [wsV])⟩
  have h2 := hd.2.2
  rw [h] at h2
  exact (Option.some.inj h2).symm
theorem vx_runVW {y : MethodName} {bytes cc : ByteArray} {maxL nL mc ms n index : Nat} {ret : Option FieldType} {hh : List (Nat × Nat × Nat × Nat)} {ws : List Cond} {rm : Room} {Pc : Array Value → State → Prop} {Qc : Array Value → State → Outcome → State → Prop} {free : Addr → Prop} {Ts : List Cond} {own C : String} {b : Addr} {As rest : List Value} {g : JFrame}
    (S : CallFix p m c cc nL s args Ts own) (hM : Met l y ws rm Pc Qc mc ms free) (cw : vx_CVW R s args own C index y bytes maxL ret hh ws rm mc ms n) (hp : PreV s H C b Pc As)
    (hg : g.method = m) (hn : As.length = n) (hsize : g.locals.size = nL) (hstack : g.stack = As.reverse ++ .ref b :: rest) (hW : 2 * g.monitorRoom + (rest.map fun v => v.category).sum ≤ 8) (hdg : decode cc g.pc = .ok (.invokevirtual index, 3)) (hf : cells + mc ≤ R.cells ∧ slots + ms ≤ R.slots) :
    va_Run p l e R s m args below meth c H locs cells slots mc ms g rest (Qc (Value.ref b :: As).toArray) free := by
  obtain ⟨⟨hrc, hrs, hfr, hlo, hws, hcw⟩, hcode, hini, hy, hlen, hl, hin, hse⟩ := cw
  have hK : Back l R p e below s args y 3 8 (PreOf R mc ms Pc) (PostOf Qc mc ms free) := va_backW (hh := hh) (bytes := bytes) (maxL := maxL) (ret := ret) hM hp.1 hrc hrs hfr hlo hws hcw (fun a' U hW => word_at hW (Or.inl (by first | rfl | simp [Cond.onTables, Cond.keeps, Cond.steady])) hini)
  obtain ⟨hx, hb, hml, ho, -⟩ := S
  obtain ⟨-, ⟨cellB, hcB, hoB, hclB⟩, hPc⟩ := hp
  intro T hT X
  obtain ⟨v, vm₁, ⟨U', l2, c2, s2⟩, hW₁, X', ⟨g', mk, t, L, e1, e2, hq, h1, hL, h2, h3⟩, st⟩ := vx_callVW X hx (C := C) (hh := hh) (bytes := bytes) (maxL := maxL) (ret := ret) ho hl hin hse hcode hy hK (by rw [hT]; exact hcB) hoB hclB hg (hsize.trans hml.symm) (argsL := As) (rest := rest) (fun sig h => hn.trans (hlen sig h)) hstack hW (by rw [hb]; exact hdg)
    (fun vm₁ hW₁ => ⟨hf.1, hf.2, hPc (T.setVm vm₁) hT hW₁⟩)
  dsimp only [Pt.U, Pt.locs, Pt.cells, Pt.slots] at X' e1 e2 h1 h2 h3 st
  subst h1; subst h2; subst h3
  exact ⟨v, (T.setVm vm₁).calling g' mk (Value.ref b :: As).toArray, t, U', L, hT, X', hL, e1, e2, hq, st⟩
section
variable {y : MethodName} {bytes cc : ByteArray} {maxL nL mc ms n index : Nat} {ret : Option FieldType} {ws : List Cond} {rm : Room} {Pc : Array Value → State → Prop} {Qc : Array Value → State → Outcome → State → Prop} {XC : String → State → State → Prop} {free : Addr → Prop} {Ts : List Cond} {own C : String} {b : Addr} {As rest : List Value} {g : JFrame}
theorem vx_runVX {hh : List (Nat × Nat × Nat × Nat)} (S : CallFix p m c cc nL s args Ts own) (hM : vx_Met l y ws rm Pc Qc XC mc ms free) (cw : vx_CVW R s args own C index y bytes maxL ret hh ws rm mc ms n) (hp : PreV s H C b Pc As)
    (hg : g.method = m) (hn : As.length = n) (hsize : g.locals.size = nL) (hstack : g.stack = As.reverse ++ .ref b :: rest) (hW : 2 * g.monitorRoom + (rest.map fun v => v.category).sum ≤ 8) (hdg : decode cc g.pc = .ok (.invokevirtual index, 3)) (hf : cells + mc ≤ R.cells ∧ slots + ms ≤ R.slots) :
    vx_Run p l e R s m args below meth c H locs cells slots mc ms g rest (Qc (Value.ref b :: As).toArray) XC free := by
  obtain ⟨⟨hrc, hrs, hfr, hlo, hws, hcw⟩, hcode, hini, hy, hlen, hl, hin, hse⟩ := cw
  have hK : vx_Back l R p e below s args y 3 8 (PreOf R mc ms Pc) (PostOf Qc mc ms free) (vx_Post XC mc ms free) := vx_backW (hh := hh) (bytes := bytes) (maxL := maxL) (ret := ret) hM hp.1 hrc hrs hfr hlo hws hcw (fun a' U hW => word_at hW (Or.inl (by first | rfl | simp [Cond.onTables, Cond.keeps, Cond.steady])) hini)
  obtain ⟨hx, hb, hml, ho, -⟩ := S
  obtain ⟨-, ⟨cellB, hcB, hoB, hclB⟩, hPc⟩ := hp
  intro T hT X
  rcases vx_callVX X hx (C := C) (hh := hh) (bytes := bytes) (maxL := maxL) (ret := ret) ho hl hin hse hcode hy hK (by rw [hT]; exact hcB) hoB hclB hg (hsize.trans hml.symm) (argsL := As) (rest := rest) (fun sig h => hn.trans (hlen sig h)) hstack hW (by rw [hb]; exact hdg)
    (fun vm₁ hW₁ => ⟨hf.1, hf.2, hPc (T.setVm vm₁) hT hW₁⟩) with ⟨v, vm₁, ⟨U', l2, c2, s2⟩, hW₁, X', ⟨g', mk, t, L, e1, e2, hq, h1, hL, h2, h3⟩, st⟩ | ⟨q, vm₁, ⟨U', l2, c2, s2⟩, hW₁, X', ⟨g', mk, t, L, E, ce, e1, e2, hq, hce, hcv, hcl, h1, hL, h2, h3⟩, st⟩
  · dsimp only [Pt.U, Pt.locs, Pt.cells, Pt.slots] at X' e1 e2 h1 h2 h3 st
    subst h1; subst h2; subst h3
    exact Or.inl ⟨v, (T.setVm vm₁).calling g' mk (Value.ref b :: As).toArray, t, U', L, hT, X', hL, e1, e2, hq, st⟩
  · dsimp only [Pt.U, Pt.locs, Pt.cells, Pt.slots] at X' e1 e2 h1 h2 h3 st hcl
    subst h1; subst h2; subst h3
    exact Or.inr ⟨q, (T.setVm vm₁).calling g' mk (Value.ref b :: As).toArray, t, U', L, E, ce, hT, X', hL, e1, e2, hq, hce, hcv, vx_cls hW₁ hcl, st⟩
theorem vx_runSX {hh : List (Nat × Nat × Nat × Nat)} (S : CallFix p m c cc nL s args Ts own) (hM : vx_Met l y ws rm Pc Qc XC mc ms free) (cw : vx_CSW R s args own index y bytes maxL ret hh ws rm mc ms n) (hp : PreS s H Pc As)
    (hg : g.method = m) (hn : As.length = n) (hsize : g.locals.size = nL) (hstack : g.stack = As.reverse ++ rest) (hW : 2 * g.monitorRoom + (rest.map fun v => v.category).sum ≤ 8) (hdg : decode cc g.pc = .ok (.invokestatic index, 3)) (hf : cells + mc ≤ R.cells ∧ slots + ms ≤ R.slots) :
    vx_Run p l e R s m args below meth c H locs cells slots mc ms g rest (Qc As.toArray) XC free := by
  obtain ⟨⟨hrc, hrs, hfr, hlo, hws, hcw⟩, hcode, hini, hy, hlen, hl, hstt⟩ := cw
  have hK : vx_Back l R p e below s args y 3 8 (PreOf R mc ms Pc) (PostOf Qc mc ms free) (vx_Post XC mc ms free) := vx_backW (hh := hh) (bytes := bytes) (maxL := maxL) (ret := ret) hM hp.1 hrc hrs hfr hlo hws hcw (fun a' U hW => word_at hW (Or.inl (by first | rfl | simp [Cond.onTables, Cond.keeps, Cond.steady])) hini)
  obtain ⟨hx, hb, hml, ho, -⟩ := S
  intro T hT X
  rcases vx_callSX X hx (hh := hh) (bytes := bytes) (maxL := maxL) (ret := ret) ho hl hstt hini hcode hy hK hg (hsize.trans hml.symm) (argsL := As) (rest := rest) (fun sig h => hn.trans (hlen sig h)) hstack hW (by rw [hb]; exact hdg)
    (fun vm₁ hW₁ => ⟨hf.1, hf.2, hp.2 (T.setVm vm₁) hT hW₁⟩) with ⟨v, vm₁, ⟨U', l2, c2, s2⟩, hW₁, X', ⟨g', mk, t, L, e1, e2, hq, h1, hL, h2, h3⟩, st⟩ | ⟨q, vm₁, ⟨U', l2, c2, s2⟩, hW₁, X', ⟨g', mk, t, L, E, ce, e1, e2, hq, hce, hcv, hcl, h1, hL, h2, h3⟩, st⟩
  · dsimp only [Pt.U, Pt.locs, Pt.cells, Pt.slots] at X' e1 e2 h1 h2 h3 st
    subst h1; subst h2; subst h3
    exact Or.inl ⟨v, (T.setVm vm₁).calling g' mk As.toArray, t, U', L, hT, X', hL, e1, e2, hq, st⟩
  · dsimp only [Pt.U, Pt.locs, Pt.cells, Pt.slots] at X' e1 e2 h1 h2 h3 st hcl
    subst h1; subst h2; subst h3
    exact Or.inr ⟨q, (T.setVm vm₁).calling g' mk As.toArray, t, U', L, E, ce, hT, X', hL, e1, e2, hq, hce, hcv, vx_cls hW₁ hcl, st⟩
end
end VXH
theorem vx_ofWH {l : Launch} {y : MethodName} {ws ws' : List Cond} {rm : Room} {Pc : Array Value → State → Prop} {Qc : Array Value → State → Outcome → State → Prop} {XC : String → State → State → Prop} {mc ms : Nat} {free : Addr → Prop} {cc : ByteArray} {maxL : Nat} {ret : Option FieldType} {hh : List (Nat × Nat × Nat × Nat)}
    (hy : plainName y.cls = true) (hw : ws = Cond.codeWith y cc maxL ret hh :: ws')
    (body : ∀ p e s m args below meth c s₁, BodyLoose p l y (headSpec ws rm) cc maxL ret e s m args below meth c s₁ → c.maxLocals = maxL → Pc args s →
      W p l e (headSpec ws rm).room s m args below meth c s.heap [] 0 0 (vx_MQ below Qc XC args s mc ms free) (entryFrame m args maxL)) : vx_Met l y ws rm Pc Qc XC mc ms free := by
  refine MetFree.of_bodyS (code := cc) (maxLocals := maxL) (ret := ret) hy ?_ ?_
  · intro args s m h hn
    obtain ⟨m9, meth, c, hn9, h1, h2, h3, h4, -, h5, h6, -⟩ := Cond.codeWith_spec (atoms_spec (ws := ws) h _ (by rw [hw]; exact List.mem_cons_self))
    cases hn.symm.trans hn9
    exact ⟨meth, c, h1, h2, h3, h4, h5, h6⟩
  · intro p e s m args below meth c s₁ B hml hP _
    have hh0 : s₁.heap = s.heap := by rw [B.state]; rfl
    obtain ⟨t, a1, o, b1, b2, b3⟩ := body p e s m args below meth c s₁ B hml hP s₁ hh0 (Stand.of_body B)
    exact ⟨t, o, a1, b1, b2, b3⟩
/-! ===== END ===== -/
end
section
/-! ===== BEGIN printed: names, fields, word lists, decode rows ===== -/
def RX0 : String := "MarkdownPlanner$Plans"
def TX0 : u_T := fun k => match k with
  | 0 => ("MarkdownPlanner$Plans", "prices", "[I", true)
  | 1 => ("MarkdownPlanner$Plans", "demands", "[I", true)
  | 2 => ("MarkdownPlanner$Plans", "worths", "[I", true)
  | 3 => ("MarkdownPlanner$Plans", "ladder", "[I", true)
  | 4 => ("MarkdownPlanner$Plans", "firstWeek", "I", false)
  | 5 => ("MarkdownPlanner$Plans", "freeWeek", "I", false)
  | 6 => ("MarkdownPlanner$Plans", "endWeek", "I", false)
  | 7 => ("MarkdownPlanner$Plans", "gap", "I", false)
  | 8 => ("MarkdownPlanner$Plans", "remnant", "I", false)
  | 9 => ("MarkdownPlanner$Plans", "ownStep", "I", false)
  | 10 => ("MarkdownPlanner$Plans", "ownStock", "I", false)
  | _ => ("MarkdownPlanner$Plans", "mostLeft", "I", false)
def tyX0 : Nat → FieldType := fun k => match k with
  | 0 => .array .int
  | 1 => .array .int
  | 2 => .array .int
  | 3 => .array .int
  | 4 => .int
  | 5 => .int
  | 6 => .int
  | 7 => .int
  | 8 => .int
  | 9 => .int
  | 10 => .int
  | _ => .int
abbrev wsX00 : List Cond := u_ws RX0 TX0 12
theorem nmX0 : ∀ a, a < 12 → ∀ b, b < 12 → a ≠ b → (TX0 a).2.1 ≠ (TX0 b).2.1 := by decide +kernel
theorem tyX0_ok : ∀ k, k < 12 → parseFieldDescriptor (TX0 k).2.2.1 = some (tyX0 k) := by decide +kernel
abbrev cX0_init : ByteArray := prog_2_method_1_code
def yX0_init : MethodName := ⟨RX0, "<init>", "()V"⟩
abbrev cX0_lookAt : ByteArray := prog_2_method_2_code
def yX0_lookAt : MethodName := ⟨RX0, "lookAt", "(LMarkdownPlanner$Season;LMarkdownPlanner$Store;)V"⟩
abbrev cX0_greatestWorth : ByteArray := prog_2_method_3_code
def yX0_greatestWorth : MethodName := ⟨RX0, "greatestWorth", "(I)I"⟩
abbrev cX0_bestStepIn : ByteArray := prog_2_method_4_code
def yX0_bestStepIn : MethodName := ⟨RX0, "bestStepIn", "(I)I"⟩
abbrev cX0_tellWorths : ByteArray := prog_2_method_5_code
def yX0_tellWorths : MethodName := ⟨RX0, "tellWorths", "(I)V"⟩
abbrev cX0_placeOf : ByteArray := prog_2_method_6_code
def yX0_placeOf : MethodName := ⟨RX0, "placeOf", "(III)I"⟩
abbrev cX0_worthOfChoosing : ByteArray := prog_2_method_7_code
def yX0_worthOfChoosing : MethodName := ⟨RX0, "worthOfChoosing", "(III)I"⟩
abbrev cX0_lowestBestStep : ByteArray := prog_2_method_8_code
def yX0_lowestBestStep : MethodName := ⟨RX0, "lowestBestStep", "(III)I"⟩
abbrev cX0_worthOfTaking : ByteArray := prog_2_method_9_code
def yX0_worthOfTaking : MethodName := ⟨RX0, "worthOfTaking", "(IIII)I"⟩
abbrev cX0_worthOfKeeping : ByteArray := prog_2_method_10_code
def yX0_worthOfKeeping : MethodName := ⟨RX0, "worthOfKeeping", "(IIII)I"⟩
abbrev cX0_worthFrom : ByteArray := prog_2_method_11_code
def yX0_worthFrom : MethodName := ⟨RX0, "worthFrom", "(III)I"⟩
abbrev cX0_greatestWorthByAll : ByteArray := prog_2_method_12_code
def yX0_greatestWorthByAll : MethodName := ⟨RX0, "greatestWorthByAll", "()I"⟩
abbrev cX0_worthOfLadder : ByteArray := prog_2_method_13_code
def yX0_worthOfLadder : MethodName := ⟨RX0, "worthOfLadder", "(I)I"⟩
abbrev cX0_turnToNextLadder : ByteArray := prog_2_method_14_code
def yX0_turnToNextLadder : MethodName := ⟨RX0, "turnToNextLadder", "(I)Z"⟩
def RX1 : String := "MarkdownPlanner$Season"
def TX1 : u_T := fun k => match k with
  | 0 => ("MarkdownPlanner$Season", "prices", "[I", true)
  | 1 => ("MarkdownPlanner$Season", "weeks", "I", false)
  | 2 => ("MarkdownPlanner$Season", "week", "I", false)
  | 3 => ("MarkdownPlanner$Season", "gap", "I", false)
  | 4 => ("MarkdownPlanner$Season", "remnant", "I", false)
  | 5 => ("MarkdownPlanner$Season", "moving", "I", false)
  | _ => ("MarkdownPlanner$Season", "taken", "I", false)
def tyX1 : Nat → FieldType := fun k => match k with
  | 0 => .array .int
  | 1 => .int
  | 2 => .int
  | 3 => .int
  | 4 => .int
  | 5 => .int
  | _ => .int
abbrev wsX10 : List Cond := u_ws RX1 TX1 7
theorem nmX1 : ∀ a, a < 7 → ∀ b, b < 7 → a ≠ b → (TX1 a).2.1 ≠ (TX1 b).2.1 := by decide +kernel
theorem tyX1_ok : ∀ k, k < 7 → parseFieldDescriptor (TX1 k).2.2.1 = some (tyX1 k) := by decide +kernel
abbrev cX1_init : ByteArray := prog_3_method_1_code
def yX1_init : MethodName := ⟨RX1, "<init>", "()V"⟩
abbrev cX1_startAnew : ByteArray := prog_3_method_2_code
def yX1_startAnew : MethodName := ⟨RX1, "startAnew", "(I)V"⟩
abbrev cX1_keepsLadderDown : ByteArray := prog_3_method_3_code
def yX1_keepsLadderDown : MethodName := ⟨RX1, "keepsLadderDown", "(II)Z"⟩
def RX2 : String := "MarkdownPlanner$Store"
def TX2 : u_T := fun k => match k with
  | 0 => ("MarkdownPlanner$Store", "demands", "[I", true)
  | 1 => ("MarkdownPlanner$Store", "pieces", "[I", true)
  | 2 => ("MarkdownPlanner$Store", "step", "I", false)
  | 3 => ("MarkdownPlanner$Store", "markedDownIn", "I", false)
  | _ => ("MarkdownPlanner$Store", "piecesSold", "I", false)
def tyX2 : Nat → FieldType := fun k => match k with
  | 0 => .array .int
  | 1 => .array .int
  | 2 => .int
  | 3 => .int
  | _ => .int
abbrev wsX20 : List Cond := u_ws RX2 TX2 5
theorem nmX2 : ∀ a, a < 5 → ∀ b, b < 5 → a ≠ b → (TX2 a).2.1 ≠ (TX2 b).2.1 := by decide +kernel
theorem tyX2_ok : ∀ k, k < 5 → parseFieldDescriptor (TX2 k).2.2.1 = some (tyX2 k) := by decide +kernel
abbrev cX2_init : ByteArray := prog_4_method_1_code
def yX2_init : MethodName := ⟨RX2, "<init>", "()V"⟩
abbrev cX2_startAnew : ByteArray := prog_4_method_2_code
def yX2_startAnew : MethodName := ⟨RX2, "startAnew", "()V"⟩
abbrev cX2_waitFrom : ByteArray := prog_4_method_3_code
def yX2_waitFrom : MethodName := ⟨RX2, "waitFrom", "(II)I"⟩
abbrev cX2_wholeStock : ByteArray := prog_4_method_4_code
def yX2_wholeStock : MethodName := ⟨RX2, "wholeStock", "()I"⟩
abbrev cX2_sizesInStock : ByteArray := prog_4_method_5_code
def yX2_sizesInStock : MethodName := ⟨RX2, "sizesInStock", "()I"⟩
abbrev cX2_salesAt : ByteArray := prog_4_method_6_code
def yX2_salesAt : MethodName := ⟨RX2, "salesAt", "(I)I"⟩
abbrev cX2_sellForAWeek : ByteArray := prog_4_method_7_code
def yX2_sellForAWeek : MethodName := ⟨RX2, "sellForAWeek", "()I"⟩
abbrev cX2_fullestSize : ByteArray := prog_4_method_8_code
def yX2_fullestSize : MethodName := ⟨RX2, "fullestSize", "()I"⟩
def RX3 : String := "MarkdownPlanner"
def TX3 : u_T := fun k => match k with
  | 0 => ("MarkdownPlanner", "season", "LMarkdownPlanner$Season;", true)
  | 1 => ("MarkdownPlanner", "stores", "[LMarkdownPlanner$Store;", true)
  | _ => ("MarkdownPlanner", "plans", "LMarkdownPlanner$Plans;", true)
def tyX3 : Nat → FieldType := fun k => match k with
  | 0 => .object "MarkdownPlanner$Season"
  | 1 => .array (.object "MarkdownPlanner$Store")
  | _ => .object "MarkdownPlanner$Plans"
abbrev wsX30 : List Cond := u_ws RX3 TX3 3
theorem nmX3 : ∀ a, a < 3 → ∀ b, b < 3 → a ≠ b → (TX3 a).2.1 ≠ (TX3 b).2.1 := by decide +kernel
theorem tyX3_ok : ∀ k, k < 3 → parseFieldDescriptor (TX3 k).2.2.1 = some (tyX3 k) := by decide +kernel
abbrev cX3_init : ByteArray := prog_1_method_1_code
def yX3_init : MethodName := ⟨RX3, "<init>", "()V"⟩
abbrev cX3_begin : ByteArray := prog_1_method_2_code
def yX3_begin : MethodName := ⟨RX3, "begin", "(I)I"⟩
abbrev cX3_setPrice : ByteArray := prog_1_method_3_code
def yX3_setPrice : MethodName := ⟨RX3, "setPrice", "(II)I"⟩
abbrev cX3_setDemand : ByteArray := prog_1_method_4_code
def yX3_setDemand : MethodName := ⟨RX3, "setDemand", "(III)I"⟩
abbrev cX3_setRules : ByteArray := prog_1_method_5_code
def yX3_setRules : MethodName := ⟨RX3, "setRules", "(III)V"⟩
abbrev cX3_put : ByteArray := prog_1_method_6_code
def yX3_put : MethodName := ⟨RX3, "put", "(III)I"⟩
abbrev cX3_markDown : ByteArray := prog_1_method_7_code
def yX3_markDown : MethodName := ⟨RX3, "markDown", "(II)I"⟩
abbrev cX3_move : ByteArray := prog_1_method_8_code
def yX3_move : MethodName := ⟨RX3, "move", "(IIII)I"⟩
abbrev cX3_run : ByteArray := prog_1_method_9_code
def yX3_run : MethodName := ⟨RX3, "run", "()I"⟩
abbrev cX3_week : ByteArray := prog_1_method_10_code
def yX3_week : MethodName := ⟨RX3, "week", "()I"⟩
abbrev cX3_stock : ByteArray := prog_1_method_11_code
def yX3_stock : MethodName := ⟨RX3, "stock", "(II)I"⟩
abbrev cX3_step : ByteArray := prog_1_method_12_code
def yX3_step : MethodName := ⟨RX3, "step", "(I)I"⟩
abbrev cX3_weeksToWait : ByteArray := prog_1_method_13_code
def yX3_weeksToWait : MethodName := ⟨RX3, "weeksToWait", "(I)I"⟩
abbrev cX3_sold : ByteArray := prog_1_method_14_code
def yX3_sold : MethodName := ⟨RX3, "sold", "(I)I"⟩
abbrev cX3_taken : ByteArray := prog_1_method_15_code
def yX3_taken : MethodName := ⟨RX3, "taken", "()I"⟩
abbrev cX3_wouldSell : ByteArray := prog_1_method_16_code
def yX3_wouldSell : MethodName := ⟨RX3, "wouldSell", "(II)I"⟩
abbrev cX3_best : ByteArray := prog_1_method_17_code
def yX3_best : MethodName := ⟨RX3, "best", "(I)I"⟩
abbrev cX3_bestByAll : ByteArray := prog_1_method_18_code
def yX3_bestByAll : MethodName := ⟨RX3, "bestByAll", "(I)I"⟩
abbrev cX3_planned : ByteArray := prog_1_method_19_code
def yX3_planned : MethodName := ⟨RX3, "planned", "(II)I"⟩
abbrev cX3_bestLeaving : ByteArray := prog_1_method_20_code
def yX3_bestLeaving : MethodName := ⟨RX3, "bestLeaving", "(II)I"⟩
abbrev cX3_requireWithin : ByteArray := prog_1_method_21_code
def yX3_requireWithin : MethodName := ⟨RX3, "requireWithin", "(III)V"⟩
abbrev cX3_requireStep : ByteArray := prog_1_method_22_code
def yX3_requireStep : MethodName := ⟨RX3, "requireStep", "(I)V"⟩
abbrev cX3_requireSize : ByteArray := prog_1_method_23_code
def yX3_requireSize : MethodName := ⟨RX3, "requireSize", "(I)V"⟩
abbrev cX3_requireRoomFor : ByteArray := prog_1_method_24_code
def yX3_requireRoomFor : MethodName := ⟨RX3, "requireRoomFor", "(LMarkdownPlanner$Store;I)V"⟩
abbrev cX3_requireSeasonOn : ByteArray := prog_1_method_25_code
def yX3_requireSeasonOn : MethodName := ⟨RX3, "requireSeasonOn", "()V"⟩
abbrev cX3_storeOf : ByteArray := prog_1_method_26_code
def yX3_storeOf : MethodName := ⟨RX3, "storeOf", "(I)LMarkdownPlanner$Store;"⟩
def RX4 : String := "MarkdownPlannerModel"
def TX4 : u_T := fun k => match k with
  | 0 => ("MarkdownPlannerModel", "weeks", "I", false)
  | 1 => ("MarkdownPlannerModel", "week", "I", false)
  | 2 => ("MarkdownPlannerModel", "price", "[I", true)
  | 3 => ("MarkdownPlannerModel", "demand", "[I", true)
  | 4 => ("MarkdownPlannerModel", "gap", "I", false)
  | 5 => ("MarkdownPlannerModel", "remnant", "I", false)
  | 6 => ("MarkdownPlannerModel", "moving", "I", false)
  | 7 => ("MarkdownPlannerModel", "stock", "[I", true)
  | 8 => ("MarkdownPlannerModel", "step", "[I", true)
  | 9 => ("MarkdownPlannerModel", "last", "[I", true)
  | 10 => ("MarkdownPlannerModel", "sold", "[I", true)
  | 11 => ("MarkdownPlannerModel", "taken", "I", false)
  | 12 => ("MarkdownPlannerModel", "worth", "[I", true)
  | _ => ("MarkdownPlannerModel", "thrown", "I", false)
def tyX4 : Nat → FieldType := fun k => match k with
  | 0 => .int
  | 1 => .int
  | 2 => .array .int
  | 3 => .array .int
  | 4 => .int
  | 5 => .int
  | 6 => .int
  | 7 => .array .int
  | 8 => .array .int
  | 9 => .array .int
  | 10 => .array .int
  | 11 => .int
  | 12 => .array .int
  | _ => .int
abbrev wsX40 : List Cond := u_ws RX4 TX4 14
theorem nmX4 : ∀ a, a < 14 → ∀ b, b < 14 → a ≠ b → (TX4 a).2.1 ≠ (TX4 b).2.1 := by decide +kernel
theorem tyX4_ok : ∀ k, k < 14 → parseFieldDescriptor (TX4 k).2.2.1 = some (tyX4 k) := by decide +kernel
abbrev cX4_init : ByteArray := prog_6_method_1_code
def yX4_init : MethodName := ⟨RX4, "<init>", "()V"⟩
abbrev cX4_thrown : ByteArray := prog_6_method_2_code
def yX4_thrown : MethodName := ⟨RX4, "thrown", "()I"⟩
abbrev cX4_in : ByteArray := prog_6_method_3_code
def yX4_in : MethodName := ⟨RX4, "in", "(III)Z"⟩
abbrev cX4_asked : ByteArray := prog_6_method_4_code
def yX4_asked : MethodName := ⟨RX4, "asked", "(Z)Z"⟩
abbrev cX4_asked_ : ByteArray := prog_6_method_5_code
def yX4_asked_ : MethodName := ⟨RX4, "asked", "(ZZ)Z"⟩
abbrev cX4_told : ByteArray := prog_6_method_6_code
def yX4_told : MethodName := ⟨RX4, "told", "(I)I"⟩
abbrev cX4_isStore : ByteArray := prog_6_method_7_code
def yX4_isStore : MethodName := ⟨RX4, "isStore", "(I)Z"⟩
abbrev cX4_isSize : ByteArray := prog_6_method_8_code
def yX4_isSize : MethodName := ⟨RX4, "isSize", "(I)Z"⟩
abbrev cX4_isStep : ByteArray := prog_6_method_9_code
def yX4_isStep : MethodName := ⟨RX4, "isStep", "(I)Z"⟩
abbrev cX4_whole : ByteArray := prog_6_method_10_code
def yX4_whole : MethodName := ⟨RX4, "whole", "(I)I"⟩
abbrev cX4_begin : ByteArray := prog_6_method_11_code
def yX4_begin : MethodName := ⟨RX4, "begin", "(I)I"⟩
abbrev cX4_setPrice : ByteArray := prog_6_method_12_code
def yX4_setPrice : MethodName := ⟨RX4, "setPrice", "(II)I"⟩
abbrev cX4_setDemand : ByteArray := prog_6_method_13_code
def yX4_setDemand : MethodName := ⟨RX4, "setDemand", "(III)I"⟩
abbrev cX4_setRules : ByteArray := prog_6_method_14_code
def yX4_setRules : MethodName := ⟨RX4, "setRules", "(III)V"⟩
abbrev cX4_put : ByteArray := prog_6_method_15_code
def yX4_put : MethodName := ⟨RX4, "put", "(III)I"⟩
abbrev cX4_waits : ByteArray := prog_6_method_16_code
def yX4_waits : MethodName := ⟨RX4, "waits", "(I)I"⟩
abbrev cX4_markDown : ByteArray := prog_6_method_17_code
def yX4_markDown : MethodName := ⟨RX4, "markDown", "(II)I"⟩
abbrev cX4_move : ByteArray := prog_6_method_18_code
def yX4_move : MethodName := ⟨RX4, "move", "(IIII)I"⟩
abbrev cX4_sells : ByteArray := prog_6_method_19_code
def yX4_sells : MethodName := ⟨RX4, "sells", "(II)I"⟩
abbrev cX4_run : ByteArray := prog_6_method_20_code
def yX4_run : MethodName := ⟨RX4, "run", "()I"⟩
abbrev cX4_week : ByteArray := prog_6_method_21_code
def yX4_week : MethodName := ⟨RX4, "week", "()I"⟩
abbrev cX4_stock : ByteArray := prog_6_method_22_code
def yX4_stock : MethodName := ⟨RX4, "stock", "(II)I"⟩
abbrev cX4_step : ByteArray := prog_6_method_23_code
def yX4_step : MethodName := ⟨RX4, "step", "(I)I"⟩
abbrev cX4_weeksToWait : ByteArray := prog_6_method_24_code
def yX4_weeksToWait : MethodName := ⟨RX4, "weeksToWait", "(I)I"⟩
abbrev cX4_sold : ByteArray := prog_6_method_25_code
def yX4_sold : MethodName := ⟨RX4, "sold", "(I)I"⟩
abbrev cX4_taken : ByteArray := prog_6_method_26_code
def yX4_taken : MethodName := ⟨RX4, "taken", "()I"⟩
abbrev cX4_wouldSell : ByteArray := prog_6_method_27_code
def yX4_wouldSell : MethodName := ⟨RX4, "wouldSell", "(II)I"⟩
abbrev cX4_at : ByteArray := prog_6_method_28_code
def yX4_at : MethodName := ⟨RX4, "at", "(IIII)I"⟩
abbrev cX4_worthOf : ByteArray := prog_6_method_29_code
def yX4_worthOf : MethodName := ⟨RX4, "worthOf", "(IIIIII)I"⟩
abbrev cX4_finds : ByteArray := prog_6_method_30_code
def yX4_finds : MethodName := ⟨RX4, "finds", "(II)I"⟩
abbrev cX4_best : ByteArray := prog_6_method_31_code
def yX4_best : MethodName := ⟨RX4, "best", "(I)I"⟩
abbrev cX4_bestByAll : ByteArray := prog_6_method_32_code
def yX4_bestByAll : MethodName := ⟨RX4, "bestByAll", "(I)I"⟩
abbrev cX4_planned : ByteArray := prog_6_method_33_code
def yX4_planned : MethodName := ⟨RX4, "planned", "(II)I"⟩
abbrev cX4_bestLeaving : ByteArray := prog_6_method_34_code
def yX4_bestLeaving : MethodName := ⟨RX4, "bestLeaving", "(II)I"⟩
def RJ9 : String := "java/lang/Math"
def TJ9 : u_T := fun k => match k with
  | _ => ("", "", "", false)
def tyJ9 : Nat → FieldType := fun k => match k with
  | _ => .int
abbrev wsJ90 : List Cond := u_ws RJ9 TJ9 0
theorem nmJ9 : ∀ a, a < 0 → ∀ b, b < 0 → a ≠ b → (TJ9 a).2.1 ≠ (TJ9 b).2.1 := by decide +kernel
theorem tyJ9_ok : ∀ k, k < 0 → parseFieldDescriptor (TJ9 k).2.2.1 = some (tyJ9 k) := by decide +kernel
abbrev cJ9_max_7cf53 : ByteArray := prog_10_method_65_code
def yJ9_max_7cf53 : MethodName := ⟨RJ9, "max", "(II)I"⟩
abbrev cJ9_min_7cf53 : ByteArray := prog_10_method_69_code
def yJ9_min_7cf53 : MethodName := ⟨RJ9, "min", "(II)I"⟩
def RJ0 : String := "java/lang/String"
def TJ0 : u_T := fun k => match k with
  | _ => ("", "", "", false)
def tyJ0 : Nat → FieldType := fun k => match k with
  | _ => .int
abbrev wsJ00 : List Cond := u_ws RJ0 TJ0 0
theorem nmJ0 : ∀ a, a < 0 → ∀ b, b < 0 → a ≠ b → (TJ0 a).2.1 ≠ (TJ0 b).2.1 := by decide +kernel
theorem tyJ0_ok : ∀ k, k < 0 → parseFieldDescriptor (TJ0 k).2.2.1 = some (tyJ0 k) := by decide +kernel
def RJ10 : String := "java/lang/System"
def TJ10 : u_T := fun k => match k with
  | _ => ("", "", "", false)
def tyJ10 : Nat → FieldType := fun k => match k with
  | _ => .int
abbrev wsJ100 : List Cond := u_ws RJ10 TJ10 0
theorem nmJ10 : ∀ a, a < 0 → ∀ b, b < 0 → a ≠ b → (TJ10 a).2.1 ≠ (TJ10 b).2.1 := by decide +kernel
theorem tyJ10_ok : ∀ k, k < 0 → parseFieldDescriptor (TJ10 k).2.2.1 = some (tyJ10 k) := by decide +kernel
def RL : String := "MarkdownPlannerLaw"
abbrev cL_begin : ByteArray := method_3_code
def yL_begin : MethodName := ⟨RL, "begin", "(LMarkdownPlanner;I[J)I"⟩
abbrev cL_setPrice : ByteArray := method_4_code
def yL_setPrice : MethodName := ⟨RL, "setPrice", "(LMarkdownPlanner;II[J)I"⟩
abbrev cL_setDemand : ByteArray := method_5_code
def yL_setDemand : MethodName := ⟨RL, "setDemand", "(LMarkdownPlanner;III[J)I"⟩
abbrev cL_setRules : ByteArray := method_6_code
def yL_setRules : MethodName := ⟨RL, "setRules", "(LMarkdownPlanner;III)I"⟩
abbrev cL_put : ByteArray := method_7_code
def yL_put : MethodName := ⟨RL, "put", "(LMarkdownPlanner;III[J)I"⟩
abbrev cL_markDown : ByteArray := method_8_code
def yL_markDown : MethodName := ⟨RL, "markDown", "(LMarkdownPlanner;II[J)I"⟩
abbrev cL_move : ByteArray := method_9_code
def yL_move : MethodName := ⟨RL, "move", "(LMarkdownPlanner;IIII[J)I"⟩
abbrev cL_run : ByteArray := method_10_code
def yL_run : MethodName := ⟨RL, "run", "(LMarkdownPlanner;[J)I"⟩
abbrev cL_stock : ByteArray := method_11_code
def yL_stock : MethodName := ⟨RL, "stock", "(LMarkdownPlanner;II[J)I"⟩
abbrev cL_step : ByteArray := method_12_code
def yL_step : MethodName := ⟨RL, "step", "(LMarkdownPlanner;I[J)I"⟩
abbrev cL_weeksToWait : ByteArray := method_13_code
def yL_weeksToWait : MethodName := ⟨RL, "weeksToWait", "(LMarkdownPlanner;I[J)I"⟩
abbrev cL_sold : ByteArray := method_14_code
def yL_sold : MethodName := ⟨RL, "sold", "(LMarkdownPlanner;I[J)I"⟩
abbrev cL_wouldSell : ByteArray := method_15_code
def yL_wouldSell : MethodName := ⟨RL, "wouldSell", "(LMarkdownPlanner;II[J)I"⟩
abbrev cL_best : ByteArray := method_16_code
def yL_best : MethodName := ⟨RL, "best", "(LMarkdownPlanner;I[J)I"⟩
abbrev cL_bestByAll : ByteArray := method_17_code
def yL_bestByAll : MethodName := ⟨RL, "bestByAll", "(LMarkdownPlanner;I[J)I"⟩
abbrev cL_planned : ByteArray := method_18_code
def yL_planned : MethodName := ⟨RL, "planned", "(LMarkdownPlanner;II[J)I"⟩
abbrev cL_bestLeaving : ByteArray := method_19_code
def yL_bestLeaving : MethodName := ⟨RL, "bestLeaving", "(LMarkdownPlanner;II[J)I"⟩
abbrev cL_law : ByteArray := code
def yL_law : MethodName := ⟨RL, "law", "([I)Z"⟩
def wsX0_init : List Cond := .code yX0_init cX0_init 1 none :: ([.methodLink RX0 3 objectInit, .instanceMethod objectInit, .code objectInit ⟨#[0xb1]⟩ 1 none, .arrayClass .int, .fieldLink RX0 9 "MarkdownPlanner$Plans" "prices" "[I", .fieldLink RX0 15 "MarkdownPlanner$Plans" "demands" "[I", .fieldLink RX0 18 "MarkdownPlanner$Plans" "worths" "[I", .fieldLink RX0 21 "MarkdownPlanner$Plans" "ladder" "[I"] ++ wsX00)
def wsX2_waitFrom : List Cond := .code yX2_waitFrom cX2_waitFrom 3 (some .int) :: ([.fieldLink RX2 18 "MarkdownPlanner$Store" "markedDownIn" "I", .methodLink RX2 28 Lib.Math.max.name, .static Lib.Math.max.name, .initialized "java/lang/Math", .code Lib.Math.max.name Lib.Math.max.code 2 (some .int)] ++ wsX20)
def wsX2_wholeStock : List Cond := .code yX2_wholeStock cX2_wholeStock 3 (some .int) :: ([.fieldLink RX2 15 "MarkdownPlanner$Store" "pieces" "[I"] ++ wsX20)
def wsX0_lookAt_r1 : List Cond := [Cond.fieldLink RX0 9 "MarkdownPlanner$Plans" "prices" "[I", Cond.methodLink RX0 27 arraycopyName, Cond.native arraycopyName, Cond.static arraycopyName, Cond.initialized "java/lang/System", Cond.fieldLink RX0 15 "MarkdownPlanner$Plans" "demands" "[I", Cond.fieldLink RX0 40 "MarkdownPlanner$Plans" "firstWeek" "I", Cond.fieldLink RX0 46 "MarkdownPlanner$Plans" "endWeek" "I", Cond.fieldLink RX0 52 "MarkdownPlanner$Plans" "gap" "I", Cond.fieldLink RX0 56 "MarkdownPlanner$Plans" "remnant" "I", Cond.methodLink RX0 61 Lib.Math.min.name, Cond.static Lib.Math.min.name, Cond.initialized "java/lang/Math", Cond.code Lib.Math.min.name Lib.Math.min.code 2 (some .int), Cond.fieldLink RX0 66 "MarkdownPlanner$Plans" "freeWeek" "I", Cond.fieldLink RX0 72 "MarkdownPlanner$Plans" "ownStep" "I", Cond.fieldLink RX0 79 "MarkdownPlanner$Plans" "ownStock" "I", Cond.instanceMethod yX2_waitFrom, Cond.initialized RX2, Cond.selects RX2 yX2_waitFrom yX2_waitFrom, Cond.code yX2_waitFrom cX2_waitFrom 3 (some .int), Cond.fieldLink RX2 18 "MarkdownPlanner$Store" "markedDownIn" "I", Cond.methodLink RX2 28 Lib.Math.max.name, Cond.static Lib.Math.max.name]
def wsX0_lookAt_r2 : List Cond := [Cond.code Lib.Math.max.name Lib.Math.max.code 2 (some .int), Cond.instanceMethod yX2_wholeStock, Cond.selects RX2 yX2_wholeStock yX2_wholeStock, Cond.code yX2_wholeStock cX2_wholeStock 3 (some .int), Cond.fieldLink RX2 15 "MarkdownPlanner$Store" "pieces" "[I"]
def wsX0_lookAt : List Cond := .code yX0_lookAt cX0_lookAt 3 none :: ((wsX0_lookAt_r1 ++ wsX0_lookAt_r2) ++ wsX10 ++ wsX00 ++ wsX20)
def wsX0_placeOf : List Cond := .code yX0_placeOf cX0_placeOf 3 (some .int) :: ([])
def wsX0_worthFrom : List Cond := .code yX0_worthFrom cX0_worthFrom 4 (some .int) :: ([.fieldLink RX0 46 "MarkdownPlanner$Plans" "endWeek" "I", .fieldLink RX0 18 "MarkdownPlanner$Plans" "worths" "[I", .fieldLink RX0 94 "MarkdownPlanner$Plans" "mostLeft" "I", .fieldLink RX0 56 "MarkdownPlanner$Plans" "remnant" "I", .methodLink RX0 97 yX0_placeOf, .static yX0_placeOf, .initialized RX0, .code yX0_placeOf cX0_placeOf 3 (some .int)] ++ wsX00)
def wsX0_worthOfKeeping : List Cond := .code yX0_worthOfKeeping cX0_worthOfKeeping 8 (some .int) :: ([.fieldLink RX0 46 "MarkdownPlanner$Plans" "endWeek" "I", .methodLink RX0 61 Lib.Math.min.name, .static Lib.Math.min.name, .initialized "java/lang/Math", .code Lib.Math.min.name Lib.Math.min.code 2 (some .int), .fieldLink RX0 15 "MarkdownPlanner$Plans" "demands" "[I", .fieldLink RX0 9 "MarkdownPlanner$Plans" "prices" "[I", .methodLink RX0 109 yX0_worthFrom, .instanceMethod yX0_worthFrom, .selects RX0 yX0_worthFrom yX0_worthFrom, .initialized RX0, .code yX0_worthFrom cX0_worthFrom 4 (some .int), .fieldLink RX0 18 "MarkdownPlanner$Plans" "worths" "[I", .fieldLink RX0 94 "MarkdownPlanner$Plans" "mostLeft" "I", .fieldLink RX0 56 "MarkdownPlanner$Plans" "remnant" "I", .methodLink RX0 97 yX0_placeOf, .static yX0_placeOf, .code yX0_placeOf cX0_placeOf 3 (some .int)] ++ wsX00)
def wsX0_worthOfTaking : List Cond := .code yX0_worthOfTaking cX0_worthOfTaking 5 (some .int) :: ([.fieldLink RX0 52 "MarkdownPlanner$Plans" "gap" "I", .methodLink RX0 86 yX0_worthOfKeeping, .instanceMethod yX0_worthOfKeeping, .selects RX0 yX0_worthOfKeeping yX0_worthOfKeeping, .initialized RX0, .code yX0_worthOfKeeping cX0_worthOfKeeping 8 (some .int), .fieldLink RX0 46 "MarkdownPlanner$Plans" "endWeek" "I", .methodLink RX0 61 Lib.Math.min.name, .static Lib.Math.min.name, .initialized "java/lang/Math", .code Lib.Math.min.name Lib.Math.min.code 2 (some .int), .fieldLink RX0 15 "MarkdownPlanner$Plans" "demands" "[I", .fieldLink RX0 9 "MarkdownPlanner$Plans" "prices" "[I", .methodLink RX0 109 yX0_worthFrom, .instanceMethod yX0_worthFrom, .selects RX0 yX0_worthFrom yX0_worthFrom, .code yX0_worthFrom cX0_worthFrom 4 (some .int), .fieldLink RX0 18 "MarkdownPlanner$Plans" "worths" "[I", .fieldLink RX0 94 "MarkdownPlanner$Plans" "mostLeft" "I", .fieldLink RX0 56 "MarkdownPlanner$Plans" "remnant" "I", .methodLink RX0 97 yX0_placeOf, .static yX0_placeOf, .code yX0_placeOf cX0_placeOf 3 (some .int)] ++ wsX00)
def wsX0_worthOfChoosing_r1 : List Cond := [Cond.methodLink RX0 106 Lib.Math.max.name, Cond.static Lib.Math.max.name, Cond.initialized "java/lang/Math", Cond.code Lib.Math.max.name Lib.Math.max.code 2 (some .int), Cond.methodLink RX0 103 yX0_worthOfTaking, Cond.instanceMethod yX0_worthOfTaking, Cond.selects RX0 yX0_worthOfTaking yX0_worthOfTaking, Cond.initialized RX0, Cond.code yX0_worthOfTaking cX0_worthOfTaking 5 (some .int), Cond.fieldLink RX0 52 "MarkdownPlanner$Plans" "gap" "I", Cond.methodLink RX0 86 yX0_worthOfKeeping, Cond.instanceMethod yX0_worthOfKeeping, Cond.selects RX0 yX0_worthOfKeeping yX0_worthOfKeeping, Cond.code yX0_worthOfKeeping cX0_worthOfKeeping 8 (some .int), Cond.fieldLink RX0 46 "MarkdownPlanner$Plans" "endWeek" "I", Cond.methodLink RX0 61 Lib.Math.min.name, Cond.static Lib.Math.min.name, Cond.code Lib.Math.min.name Lib.Math.min.code 2 (some .int), Cond.fieldLink RX0 15 "MarkdownPlanner$Plans" "demands" "[I", Cond.fieldLink RX0 9 "MarkdownPlanner$Plans" "prices" "[I", Cond.methodLink RX0 109 yX0_worthFrom, Cond.instanceMethod yX0_worthFrom, Cond.selects RX0 yX0_worthFrom yX0_worthFrom, Cond.code yX0_worthFrom cX0_worthFrom 4 (some .int)]
def wsX0_worthOfChoosing_r2 : List Cond := [Cond.fieldLink RX0 18 "MarkdownPlanner$Plans" "worths" "[I", Cond.fieldLink RX0 94 "MarkdownPlanner$Plans" "mostLeft" "I", Cond.fieldLink RX0 56 "MarkdownPlanner$Plans" "remnant" "I", Cond.methodLink RX0 97 yX0_placeOf, Cond.static yX0_placeOf, Cond.code yX0_placeOf cX0_placeOf 3 (some .int)]
def wsX0_worthOfChoosing : List Cond := .code yX0_worthOfChoosing cX0_worthOfChoosing 6 (some .int) :: ((wsX0_worthOfChoosing_r1 ++ wsX0_worthOfChoosing_r2) ++ wsX00)
def wsX0_tellWorths_r1 : List Cond := [Cond.fieldLink RX0 94 "MarkdownPlanner$Plans" "mostLeft" "I", Cond.fieldLink RX0 46 "MarkdownPlanner$Plans" "endWeek" "I", Cond.fieldLink RX0 66 "MarkdownPlanner$Plans" "freeWeek" "I", Cond.fieldLink RX0 72 "MarkdownPlanner$Plans" "ownStep" "I", Cond.fieldLink RX0 79 "MarkdownPlanner$Plans" "ownStock" "I", Cond.fieldLink RX0 18 "MarkdownPlanner$Plans" "worths" "[I", Cond.methodLink RX0 97 yX0_placeOf, Cond.static yX0_placeOf, Cond.initialized RX0, Cond.code yX0_placeOf cX0_placeOf 3 (some .int), Cond.methodLink RX0 100 yX0_worthOfChoosing, Cond.instanceMethod yX0_worthOfChoosing, Cond.selects RX0 yX0_worthOfChoosing yX0_worthOfChoosing, Cond.code yX0_worthOfChoosing cX0_worthOfChoosing 6 (some .int), Cond.methodLink RX0 106 Lib.Math.max.name, Cond.static Lib.Math.max.name, Cond.initialized "java/lang/Math", Cond.code Lib.Math.max.name Lib.Math.max.code 2 (some .int), Cond.methodLink RX0 103 yX0_worthOfTaking, Cond.instanceMethod yX0_worthOfTaking, Cond.selects RX0 yX0_worthOfTaking yX0_worthOfTaking, Cond.code yX0_worthOfTaking cX0_worthOfTaking 5 (some .int), Cond.fieldLink RX0 52 "MarkdownPlanner$Plans" "gap" "I", Cond.methodLink RX0 86 yX0_worthOfKeeping]
def wsX0_tellWorths_r2 : List Cond := [Cond.instanceMethod yX0_worthOfKeeping, Cond.selects RX0 yX0_worthOfKeeping yX0_worthOfKeeping, Cond.code yX0_worthOfKeeping cX0_worthOfKeeping 8 (some .int), Cond.methodLink RX0 61 Lib.Math.min.name, Cond.static Lib.Math.min.name, Cond.code Lib.Math.min.name Lib.Math.min.code 2 (some .int), Cond.fieldLink RX0 15 "MarkdownPlanner$Plans" "demands" "[I", Cond.fieldLink RX0 9 "MarkdownPlanner$Plans" "prices" "[I", Cond.methodLink RX0 109 yX0_worthFrom, Cond.instanceMethod yX0_worthFrom, Cond.selects RX0 yX0_worthFrom yX0_worthFrom, Cond.code yX0_worthFrom cX0_worthFrom 4 (some .int), Cond.fieldLink RX0 56 "MarkdownPlanner$Plans" "remnant" "I"]
def wsX0_tellWorths : List Cond := .code yX0_tellWorths cX0_tellWorths 5 none :: ((wsX0_tellWorths_r1 ++ wsX0_tellWorths_r2) ++ wsX00)
def wsX0_greatestWorth_r1 : List Cond := [Cond.fieldLink RX0 40 "MarkdownPlanner$Plans" "firstWeek" "I", Cond.fieldLink RX0 72 "MarkdownPlanner$Plans" "ownStep" "I", Cond.fieldLink RX0 66 "MarkdownPlanner$Plans" "freeWeek" "I", Cond.fieldLink RX0 79 "MarkdownPlanner$Plans" "ownStock" "I", Cond.methodLink RX0 82 yX0_tellWorths, Cond.instanceMethod yX0_tellWorths, Cond.selects RX0 yX0_tellWorths yX0_tellWorths, Cond.initialized RX0, Cond.code yX0_tellWorths cX0_tellWorths 5 none, Cond.fieldLink RX0 94 "MarkdownPlanner$Plans" "mostLeft" "I", Cond.fieldLink RX0 46 "MarkdownPlanner$Plans" "endWeek" "I", Cond.fieldLink RX0 18 "MarkdownPlanner$Plans" "worths" "[I", Cond.methodLink RX0 97 yX0_placeOf, Cond.static yX0_placeOf, Cond.code yX0_placeOf cX0_placeOf 3 (some .int), Cond.methodLink RX0 100 yX0_worthOfChoosing, Cond.instanceMethod yX0_worthOfChoosing, Cond.selects RX0 yX0_worthOfChoosing yX0_worthOfChoosing, Cond.code yX0_worthOfChoosing cX0_worthOfChoosing 6 (some .int), Cond.methodLink RX0 106 Lib.Math.max.name, Cond.static Lib.Math.max.name, Cond.initialized "java/lang/Math", Cond.code Lib.Math.max.name Lib.Math.max.code 2 (some .int), Cond.methodLink RX0 103 yX0_worthOfTaking]
def wsX0_greatestWorth_r2 : List Cond := [Cond.instanceMethod yX0_worthOfTaking, Cond.selects RX0 yX0_worthOfTaking yX0_worthOfTaking, Cond.code yX0_worthOfTaking cX0_worthOfTaking 5 (some .int), Cond.fieldLink RX0 52 "MarkdownPlanner$Plans" "gap" "I", Cond.methodLink RX0 86 yX0_worthOfKeeping, Cond.instanceMethod yX0_worthOfKeeping, Cond.selects RX0 yX0_worthOfKeeping yX0_worthOfKeeping, Cond.code yX0_worthOfKeeping cX0_worthOfKeeping 8 (some .int), Cond.methodLink RX0 61 Lib.Math.min.name, Cond.static Lib.Math.min.name, Cond.code Lib.Math.min.name Lib.Math.min.code 2 (some .int), Cond.fieldLink RX0 15 "MarkdownPlanner$Plans" "demands" "[I", Cond.fieldLink RX0 9 "MarkdownPlanner$Plans" "prices" "[I", Cond.methodLink RX0 109 yX0_worthFrom, Cond.instanceMethod yX0_worthFrom, Cond.selects RX0 yX0_worthFrom yX0_worthFrom, Cond.code yX0_worthFrom cX0_worthFrom 4 (some .int), Cond.fieldLink RX0 56 "MarkdownPlanner$Plans" "remnant" "I"]
def wsX0_greatestWorth : List Cond := .code yX0_greatestWorth cX0_greatestWorth 2 (some .int) :: ((wsX0_greatestWorth_r1 ++ wsX0_greatestWorth_r2) ++ wsX00)
def wsX0_lowestBestStep_r1 : List Cond := [Cond.methodLink RX0 109 yX0_worthFrom, Cond.instanceMethod yX0_worthFrom, Cond.selects RX0 yX0_worthFrom yX0_worthFrom, Cond.initialized RX0, Cond.code yX0_worthFrom cX0_worthFrom 4 (some .int), Cond.fieldLink RX0 46 "MarkdownPlanner$Plans" "endWeek" "I", Cond.fieldLink RX0 18 "MarkdownPlanner$Plans" "worths" "[I", Cond.fieldLink RX0 94 "MarkdownPlanner$Plans" "mostLeft" "I", Cond.fieldLink RX0 56 "MarkdownPlanner$Plans" "remnant" "I", Cond.methodLink RX0 97 yX0_placeOf, Cond.static yX0_placeOf, Cond.code yX0_placeOf cX0_placeOf 3 (some .int), Cond.methodLink RX0 103 yX0_worthOfTaking, Cond.instanceMethod yX0_worthOfTaking, Cond.selects RX0 yX0_worthOfTaking yX0_worthOfTaking, Cond.code yX0_worthOfTaking cX0_worthOfTaking 5 (some .int), Cond.fieldLink RX0 52 "MarkdownPlanner$Plans" "gap" "I", Cond.methodLink RX0 86 yX0_worthOfKeeping, Cond.instanceMethod yX0_worthOfKeeping, Cond.selects RX0 yX0_worthOfKeeping yX0_worthOfKeeping, Cond.code yX0_worthOfKeeping cX0_worthOfKeeping 8 (some .int), Cond.methodLink RX0 61 Lib.Math.min.name, Cond.static Lib.Math.min.name, Cond.initialized "java/lang/Math"]
def wsX0_lowestBestStep_r2 : List Cond := [Cond.code Lib.Math.min.name Lib.Math.min.code 2 (some .int), Cond.fieldLink RX0 15 "MarkdownPlanner$Plans" "demands" "[I", Cond.fieldLink RX0 9 "MarkdownPlanner$Plans" "prices" "[I"]
def wsX0_lowestBestStep : List Cond := .code yX0_lowestBestStep cX0_lowestBestStep 6 (some .int) :: ((wsX0_lowestBestStep_r1 ++ wsX0_lowestBestStep_r2) ++ wsX00)
def wsX0_bestStepIn_r1 : List Cond := [Cond.fieldLink RX0 72 "MarkdownPlanner$Plans" "ownStep" "I", Cond.fieldLink RX0 79 "MarkdownPlanner$Plans" "ownStock" "I", Cond.fieldLink RX0 66 "MarkdownPlanner$Plans" "freeWeek" "I", Cond.fieldLink RX0 40 "MarkdownPlanner$Plans" "firstWeek" "I", Cond.fieldLink RX0 52 "MarkdownPlanner$Plans" "gap" "I", Cond.fieldLink RX0 15 "MarkdownPlanner$Plans" "demands" "[I", Cond.methodLink RX0 61 Lib.Math.min.name, Cond.static Lib.Math.min.name, Cond.initialized "java/lang/Math", Cond.code Lib.Math.min.name Lib.Math.min.code 2 (some .int), Cond.methodLink RX0 82 yX0_tellWorths, Cond.instanceMethod yX0_tellWorths, Cond.selects RX0 yX0_tellWorths yX0_tellWorths, Cond.initialized RX0, Cond.code yX0_tellWorths cX0_tellWorths 5 none, Cond.fieldLink RX0 94 "MarkdownPlanner$Plans" "mostLeft" "I", Cond.fieldLink RX0 46 "MarkdownPlanner$Plans" "endWeek" "I", Cond.fieldLink RX0 18 "MarkdownPlanner$Plans" "worths" "[I", Cond.methodLink RX0 97 yX0_placeOf, Cond.static yX0_placeOf, Cond.code yX0_placeOf cX0_placeOf 3 (some .int), Cond.methodLink RX0 100 yX0_worthOfChoosing, Cond.instanceMethod yX0_worthOfChoosing, Cond.selects RX0 yX0_worthOfChoosing yX0_worthOfChoosing]
def wsX0_bestStepIn_r2 : List Cond := [Cond.code yX0_worthOfChoosing cX0_worthOfChoosing 6 (some .int), Cond.methodLink RX0 106 Lib.Math.max.name, Cond.static Lib.Math.max.name, Cond.code Lib.Math.max.name Lib.Math.max.code 2 (some .int), Cond.methodLink RX0 103 yX0_worthOfTaking, Cond.instanceMethod yX0_worthOfTaking, Cond.selects RX0 yX0_worthOfTaking yX0_worthOfTaking, Cond.code yX0_worthOfTaking cX0_worthOfTaking 5 (some .int), Cond.methodLink RX0 86 yX0_worthOfKeeping, Cond.instanceMethod yX0_worthOfKeeping, Cond.selects RX0 yX0_worthOfKeeping yX0_worthOfKeeping, Cond.code yX0_worthOfKeeping cX0_worthOfKeeping 8 (some .int), Cond.fieldLink RX0 9 "MarkdownPlanner$Plans" "prices" "[I", Cond.methodLink RX0 109 yX0_worthFrom, Cond.instanceMethod yX0_worthFrom, Cond.selects RX0 yX0_worthFrom yX0_worthFrom, Cond.code yX0_worthFrom cX0_worthFrom 4 (some .int), Cond.fieldLink RX0 56 "MarkdownPlanner$Plans" "remnant" "I", Cond.methodLink RX0 90 yX0_lowestBestStep, Cond.instanceMethod yX0_lowestBestStep, Cond.selects RX0 yX0_lowestBestStep yX0_lowestBestStep, Cond.code yX0_lowestBestStep cX0_lowestBestStep 6 (some .int)]
def wsX0_bestStepIn : List Cond := .code yX0_bestStepIn cX0_bestStepIn 7 (some .int) :: ((wsX0_bestStepIn_r1 ++ wsX0_bestStepIn_r2) ++ wsX00)
def wsX0_worthOfLadder : List Cond := .code yX0_worthOfLadder cX0_worthOfLadder 9 (some .int) :: ([.fieldLink RX0 72 "MarkdownPlanner$Plans" "ownStep" "I", .fieldLink RX0 79 "MarkdownPlanner$Plans" "ownStock" "I", .fieldLink RX0 66 "MarkdownPlanner$Plans" "freeWeek" "I", .fieldLink RX0 21 "MarkdownPlanner$Plans" "ladder" "[I", .fieldLink RX0 40 "MarkdownPlanner$Plans" "firstWeek" "I", .fieldLink RX0 52 "MarkdownPlanner$Plans" "gap" "I", .fieldLink RX0 15 "MarkdownPlanner$Plans" "demands" "[I", .methodLink RX0 61 Lib.Math.min.name, .static Lib.Math.min.name, .initialized "java/lang/Math", .code Lib.Math.min.name Lib.Math.min.code 2 (some .int), .fieldLink RX0 9 "MarkdownPlanner$Plans" "prices" "[I", .fieldLink RX0 56 "MarkdownPlanner$Plans" "remnant" "I"] ++ wsX00)
def wsX0_turnToNextLadder : List Cond := .code yX0_turnToNextLadder cX0_turnToNextLadder 5 (some .boolean) :: ([.fieldLink RX0 21 "MarkdownPlanner$Plans" "ladder" "[I"] ++ wsX00)
def wsX0_greatestWorthByAll_r1 : List Cond := [Cond.fieldLink RX0 46 "MarkdownPlanner$Plans" "endWeek" "I", Cond.fieldLink RX0 40 "MarkdownPlanner$Plans" "firstWeek" "I", Cond.methodLink RX0 61 Lib.Math.min.name, Cond.static Lib.Math.min.name, Cond.initialized "java/lang/Math", Cond.code Lib.Math.min.name Lib.Math.min.code 2 (some .int), Cond.fieldLink RX0 21 "MarkdownPlanner$Plans" "ladder" "[I", Cond.fieldLink RX0 72 "MarkdownPlanner$Plans" "ownStep" "I", Cond.constant RX0 112 (1000000), Cond.methodLink RX0 106 Lib.Math.max.name, Cond.static Lib.Math.max.name, Cond.code Lib.Math.max.name Lib.Math.max.code 2 (some .int), Cond.methodLink RX0 113 yX0_worthOfLadder, Cond.instanceMethod yX0_worthOfLadder, Cond.selects RX0 yX0_worthOfLadder yX0_worthOfLadder, Cond.initialized RX0, Cond.code yX0_worthOfLadder cX0_worthOfLadder 9 (some .int), Cond.fieldLink RX0 79 "MarkdownPlanner$Plans" "ownStock" "I", Cond.fieldLink RX0 66 "MarkdownPlanner$Plans" "freeWeek" "I", Cond.fieldLink RX0 52 "MarkdownPlanner$Plans" "gap" "I", Cond.fieldLink RX0 15 "MarkdownPlanner$Plans" "demands" "[I", Cond.fieldLink RX0 9 "MarkdownPlanner$Plans" "prices" "[I", Cond.fieldLink RX0 56 "MarkdownPlanner$Plans" "remnant" "I", Cond.methodLink RX0 117 yX0_turnToNextLadder]
def wsX0_greatestWorthByAll_r2 : List Cond := [Cond.instanceMethod yX0_turnToNextLadder, Cond.selects RX0 yX0_turnToNextLadder yX0_turnToNextLadder, Cond.code yX0_turnToNextLadder cX0_turnToNextLadder 5 (some .boolean)]
def wsX0_greatestWorthByAll : List Cond := .code yX0_greatestWorthByAll cX0_greatestWorthByAll 5 (some .int) :: ((wsX0_greatestWorthByAll_r1 ++ wsX0_greatestWorthByAll_r2) ++ wsX00)
def wsX1_init : List Cond := .code yX1_init cX1_init 2 none :: ([.methodLink RX1 3 objectInit, .instanceMethod objectInit, .code objectInit ⟨#[0xb1]⟩ 1 none, .arrayClass .int, .fieldLink RX1 9 "MarkdownPlanner$Season" "prices" "[I", .fieldLink RX1 15 "MarkdownPlanner$Season" "weeks" "I", .fieldLink RX1 19 "MarkdownPlanner$Season" "gap" "I"] ++ wsX10)
def wsX1_startAnew : List Cond := .code yX1_startAnew cX1_startAnew 2 none :: ([.fieldLink RX1 15 "MarkdownPlanner$Season" "weeks" "I", .fieldLink RX1 22 "MarkdownPlanner$Season" "week" "I", .fieldLink RX1 25 "MarkdownPlanner$Season" "taken" "I"] ++ wsX10)
def wsX1_keepsLadderDown : List Cond := .code yX1_keepsLadderDown cX1_keepsLadderDown 5 (some .boolean) :: ([.fieldLink RX1 9 "MarkdownPlanner$Season" "prices" "[I"] ++ wsX10)
def wsX2_init : List Cond := .code yX2_init cX2_init 1 none :: ([.methodLink RX2 3 objectInit, .instanceMethod objectInit, .code objectInit ⟨#[0xb1]⟩ 1 none, .arrayClass .int, .fieldLink RX2 9 "MarkdownPlanner$Store" "demands" "[I", .fieldLink RX2 15 "MarkdownPlanner$Store" "pieces" "[I", .fieldLink RX2 18 "MarkdownPlanner$Store" "markedDownIn" "I"] ++ wsX20)
def wsX2_startAnew : List Cond := .code yX2_startAnew cX2_startAnew 1 none :: ([.fieldLink RX2 22 "MarkdownPlanner$Store" "step" "I", .fieldLink RX2 18 "MarkdownPlanner$Store" "markedDownIn" "I", .fieldLink RX2 25 "MarkdownPlanner$Store" "piecesSold" "I"] ++ wsX20)
def wsX2_sizesInStock : List Cond := .code yX2_sizesInStock cX2_sizesInStock 3 (some .int) :: ([.fieldLink RX2 15 "MarkdownPlanner$Store" "pieces" "[I"] ++ wsX20)
def wsX2_salesAt : List Cond := .code yX2_salesAt cX2_salesAt 2 (some .int) :: ([.fieldLink RX2 9 "MarkdownPlanner$Store" "demands" "[I", .methodLink RX2 41 Lib.Math.min.name, .static Lib.Math.min.name, .initialized "java/lang/Math", .code Lib.Math.min.name Lib.Math.min.code 2 (some .int), .methodLink RX2 34 yX2_sizesInStock, .instanceMethod yX2_sizesInStock, .selects RX2 yX2_sizesInStock yX2_sizesInStock, .initialized RX2, .code yX2_sizesInStock cX2_sizesInStock 3 (some .int), .fieldLink RX2 15 "MarkdownPlanner$Store" "pieces" "[I", .methodLink RX2 38 yX2_wholeStock, .instanceMethod yX2_wholeStock, .selects RX2 yX2_wholeStock yX2_wholeStock, .code yX2_wholeStock cX2_wholeStock 3 (some .int)] ++ wsX20)
def wsX2_fullestSize : List Cond := .code yX2_fullestSize cX2_fullestSize 3 (some .int) :: ([.fieldLink RX2 15 "MarkdownPlanner$Store" "pieces" "[I"] ++ wsX20)
def wsX2_sellForAWeek_r1 : List Cond := [Cond.fieldLink RX2 22 "MarkdownPlanner$Store" "step" "I", Cond.fieldLink RX2 15 "MarkdownPlanner$Store" "pieces" "[I", Cond.fieldLink RX2 25 "MarkdownPlanner$Store" "piecesSold" "I", Cond.methodLink RX2 44 yX2_salesAt, Cond.instanceMethod yX2_salesAt, Cond.selects RX2 yX2_salesAt yX2_salesAt, Cond.initialized RX2, Cond.code yX2_salesAt cX2_salesAt 2 (some .int), Cond.fieldLink RX2 9 "MarkdownPlanner$Store" "demands" "[I", Cond.methodLink RX2 41 Lib.Math.min.name, Cond.static Lib.Math.min.name, Cond.initialized "java/lang/Math", Cond.code Lib.Math.min.name Lib.Math.min.code 2 (some .int), Cond.methodLink RX2 34 yX2_sizesInStock, Cond.instanceMethod yX2_sizesInStock, Cond.selects RX2 yX2_sizesInStock yX2_sizesInStock, Cond.code yX2_sizesInStock cX2_sizesInStock 3 (some .int), Cond.methodLink RX2 38 yX2_wholeStock, Cond.instanceMethod yX2_wholeStock, Cond.selects RX2 yX2_wholeStock yX2_wholeStock, Cond.code yX2_wholeStock cX2_wholeStock 3 (some .int), Cond.methodLink RX2 48 yX2_fullestSize, Cond.instanceMethod yX2_fullestSize, Cond.selects RX2 yX2_fullestSize yX2_fullestSize]
def wsX2_sellForAWeek_r2 : List Cond := [Cond.code yX2_fullestSize cX2_fullestSize 3 (some .int)]
def wsX2_sellForAWeek : List Cond := .code yX2_sellForAWeek cX2_sellForAWeek 3 (some .int) :: ((wsX2_sellForAWeek_r1 ++ wsX2_sellForAWeek_r2) ++ wsX20)
def wsX3_init_r1 : List Cond := [Cond.methodLink RX3 3 objectInit, Cond.instanceMethod objectInit, Cond.code objectInit ⟨#[0xb1]⟩ 1 none, Cond.classLink RX3 9 RX1, Cond.instantiable RX1 7, Cond.initialized RX1, Cond.fieldLink RX3 12 "MarkdownPlanner" "season" "LMarkdownPlanner$Season;", Cond.classLink RX3 16 RX2, Cond.fieldLink RX3 18 "MarkdownPlanner" "stores" "[LMarkdownPlanner$Store;", Cond.classLink RX3 22 RX0, Cond.instantiable RX0 12, Cond.initialized RX0, Cond.fieldLink RX3 25 "MarkdownPlanner" "plans" "LMarkdownPlanner$Plans;", Cond.instantiable RX2 5, Cond.initialized RX2, Cond.instanceMethod yX1_init, Cond.code yX1_init cX1_init 2 none, Cond.methodLink RX1 3 objectInit, Cond.arrayClass .int, Cond.fieldLink RX1 9 "MarkdownPlanner$Season" "prices" "[I", Cond.fieldLink RX1 15 "MarkdownPlanner$Season" "weeks" "I", Cond.fieldLink RX1 19 "MarkdownPlanner$Season" "gap" "I", Cond.instanceMethod yX0_init, Cond.code yX0_init cX0_init 1 none]
def wsX3_init_r2 : List Cond := [Cond.methodLink RX0 3 objectInit, Cond.fieldLink RX0 9 "MarkdownPlanner$Plans" "prices" "[I", Cond.fieldLink RX0 15 "MarkdownPlanner$Plans" "demands" "[I", Cond.fieldLink RX0 18 "MarkdownPlanner$Plans" "worths" "[I", Cond.fieldLink RX0 21 "MarkdownPlanner$Plans" "ladder" "[I", Cond.instanceMethod yX2_init, Cond.code yX2_init cX2_init 1 none, Cond.methodLink RX2 3 objectInit, Cond.fieldLink RX2 9 "MarkdownPlanner$Store" "demands" "[I", Cond.fieldLink RX2 15 "MarkdownPlanner$Store" "pieces" "[I", Cond.fieldLink RX2 18 "MarkdownPlanner$Store" "markedDownIn" "I"]
def wsX3_init : List Cond := .code yX3_init cX3_init 2 none :: ((wsX3_init_r1 ++ wsX3_init_r2) ++ wsX10 ++ wsX30 ++ wsX00 ++ wsX20)
def wsX3_requireWithin : List Cond := .code yX3_requireWithin cX3_requireWithin 3 none :: ([.classLink RX3 105 "java/lang/IllegalArgumentException", .initialized "java/lang/IllegalArgumentException"] ++ (vx_atS RX3 109 "java/lang/IllegalArgumentException" ["java/lang/RuntimeException", "java/lang/Exception"]).filter goodWord)
def wsX3_begin : List Cond := .code yX3_begin cX3_begin 7 (some .int) :: ([.fieldLink RX3 12 "MarkdownPlanner" "season" "LMarkdownPlanner$Season;", .fieldLink RX3 18 "MarkdownPlanner" "stores" "[LMarkdownPlanner$Store;", .methodLink RX3 30 yX3_requireWithin, .static yX3_requireWithin, .initialized RX3, .code yX3_requireWithin cX3_requireWithin 3 none, .classLink RX3 105 "java/lang/IllegalArgumentException", .initialized "java/lang/IllegalArgumentException", .instanceMethod yX1_startAnew, .initialized RX1, .selects RX1 yX1_startAnew yX1_startAnew, .code yX1_startAnew cX1_startAnew 2 none, .fieldLink RX1 15 "MarkdownPlanner$Season" "weeks" "I", .fieldLink RX1 22 "MarkdownPlanner$Season" "week" "I", .fieldLink RX1 25 "MarkdownPlanner$Season" "taken" "I", .instanceMethod yX2_startAnew, .initialized RX2, .selects RX2 yX2_startAnew yX2_startAnew, .code yX2_startAnew cX2_startAnew 1 none, .fieldLink RX2 22 "MarkdownPlanner$Store" "step" "I", .fieldLink RX2 18 "MarkdownPlanner$Store" "markedDownIn" "I", .fieldLink RX2 25 "MarkdownPlanner$Store" "piecesSold" "I"] ++ wsX30 ++ wsX10 ++ wsX20 ++ (vx_atS RX3 109 "java/lang/IllegalArgumentException" ["java/lang/RuntimeException", "java/lang/Exception"]).filter goodWord)
def wsX3_requireStep : List Cond := .code yX3_requireStep cX3_requireStep 1 none :: ([.methodLink RX3 30 yX3_requireWithin, .static yX3_requireWithin, .initialized RX3, .code yX3_requireWithin cX3_requireWithin 3 none, .classLink RX3 105 "java/lang/IllegalArgumentException", .initialized "java/lang/IllegalArgumentException"] ++ (vx_atS RX3 109 "java/lang/IllegalArgumentException" ["java/lang/RuntimeException", "java/lang/Exception"]).filter goodWord)
def wsX3_setPrice : List Cond := .code yX3_setPrice cX3_setPrice 4 (some .int) :: ([.classLink RX3 51 "java/lang/IllegalStateException", .initialized "java/lang/IllegalStateException", .fieldLink RX3 12 "MarkdownPlanner" "season" "LMarkdownPlanner$Season;", .methodLink RX3 44 yX3_requireStep, .static yX3_requireStep, .initialized RX3, .code yX3_requireStep cX3_requireStep 1 none, .methodLink RX3 30 yX3_requireWithin, .static yX3_requireWithin, .code yX3_requireWithin cX3_requireWithin 3 none, .classLink RX3 105 "java/lang/IllegalArgumentException", .initialized "java/lang/IllegalArgumentException", .instanceMethod yX1_keepsLadderDown, .initialized RX1, .selects RX1 yX1_keepsLadderDown yX1_keepsLadderDown, .code yX1_keepsLadderDown cX1_keepsLadderDown 5 (some .boolean), .fieldLink RX1 9 "MarkdownPlanner$Season" "prices" "[I"] ++ wsX30 ++ wsX10 ++ (vx_atS RX3 55 "java/lang/IllegalStateException" ["java/lang/RuntimeException", "java/lang/Exception"]).filter goodWord ++ (vx_atS RX3 109 "java/lang/IllegalArgumentException" ["java/lang/RuntimeException", "java/lang/Exception"]).filter goodWord)
def wsX3_storeOf : List Cond := .code yX3_storeOf cX3_storeOf 2 (some (.object "MarkdownPlanner$Store")) :: ([.fieldLink RX3 18 "MarkdownPlanner" "stores" "[LMarkdownPlanner$Store;", .methodLink RX3 30 yX3_requireWithin, .static yX3_requireWithin, .initialized RX3, .code yX3_requireWithin cX3_requireWithin 3 none, .classLink RX3 105 "java/lang/IllegalArgumentException", .initialized "java/lang/IllegalArgumentException"] ++ wsX30 ++ (vx_atS RX3 109 "java/lang/IllegalArgumentException" ["java/lang/RuntimeException", "java/lang/Exception"]).filter goodWord)
def wsX3_setDemand : List Cond := .code yX3_setDemand cX3_setDemand 6 (some .int) :: ([.methodLink RX3 62 yX3_storeOf, .instanceMethod yX3_storeOf, .selects RX3 yX3_storeOf yX3_storeOf, .initialized RX3, .code yX3_storeOf cX3_storeOf 2 (some (.object "MarkdownPlanner$Store")), .fieldLink RX3 18 "MarkdownPlanner" "stores" "[LMarkdownPlanner$Store;", .methodLink RX3 30 yX3_requireWithin, .static yX3_requireWithin, .code yX3_requireWithin cX3_requireWithin 3 none, .classLink RX3 105 "java/lang/IllegalArgumentException", .initialized "java/lang/IllegalArgumentException", .methodLink RX3 44 yX3_requireStep, .static yX3_requireStep, .code yX3_requireStep cX3_requireStep 1 none] ++ wsX20 ++ wsX30 ++ (vx_atS RX3 109 "java/lang/IllegalArgumentException" ["java/lang/RuntimeException", "java/lang/Exception"]).filter goodWord)
def wsX3_setRules : List Cond := .code yX3_setRules cX3_setRules 4 none :: ([.fieldLink RX3 12 "MarkdownPlanner" "season" "LMarkdownPlanner$Season;", .methodLink RX3 30 yX3_requireWithin, .static yX3_requireWithin, .initialized RX3, .code yX3_requireWithin cX3_requireWithin 3 none, .classLink RX3 105 "java/lang/IllegalArgumentException", .initialized "java/lang/IllegalArgumentException"] ++ wsX30 ++ wsX10 ++ (vx_atS RX3 109 "java/lang/IllegalArgumentException" ["java/lang/RuntimeException", "java/lang/Exception"]).filter goodWord)
def wsX3_requireSize : List Cond := .code yX3_requireSize cX3_requireSize 1 none :: ([.methodLink RX3 30 yX3_requireWithin, .static yX3_requireWithin, .initialized RX3, .code yX3_requireWithin cX3_requireWithin 3 none, .classLink RX3 105 "java/lang/IllegalArgumentException", .initialized "java/lang/IllegalArgumentException"] ++ (vx_atS RX3 109 "java/lang/IllegalArgumentException" ["java/lang/RuntimeException", "java/lang/Exception"]).filter goodWord)
def wsX3_requireRoomFor : List Cond := .code yX3_requireRoomFor cX3_requireRoomFor 2 none :: ([.classLink RX3 51 "java/lang/IllegalStateException", .initialized "java/lang/IllegalStateException", .instanceMethod yX2_wholeStock, .initialized RX2, .selects RX2 yX2_wholeStock yX2_wholeStock, .code yX2_wholeStock cX2_wholeStock 3 (some .int), .fieldLink RX2 15 "MarkdownPlanner$Store" "pieces" "[I"] ++ wsX20 ++ (vx_atS RX3 55 "java/lang/IllegalStateException" ["java/lang/RuntimeException", "java/lang/Exception"]).filter goodWord)
def wsX3_put : List Cond := .code yX3_put cX3_put 5 (some .int) :: ([.methodLink RX3 62 yX3_storeOf, .instanceMethod yX3_storeOf, .selects RX3 yX3_storeOf yX3_storeOf, .initialized RX3, .code yX3_storeOf cX3_storeOf 2 (some (.object "MarkdownPlanner$Store")), .fieldLink RX3 18 "MarkdownPlanner" "stores" "[LMarkdownPlanner$Store;", .methodLink RX3 30 yX3_requireWithin, .static yX3_requireWithin, .code yX3_requireWithin cX3_requireWithin 3 none, .classLink RX3 105 "java/lang/IllegalArgumentException", .initialized "java/lang/IllegalArgumentException", .methodLink RX3 78 yX3_requireSize, .static yX3_requireSize, .code yX3_requireSize cX3_requireSize 1 none, .methodLink RX3 81 yX3_requireRoomFor, .static yX3_requireRoomFor, .code yX3_requireRoomFor cX3_requireRoomFor 2 none, .classLink RX3 51 "java/lang/IllegalStateException", .initialized "java/lang/IllegalStateException", .instanceMethod yX2_wholeStock, .initialized RX2, .selects RX2 yX2_wholeStock yX2_wholeStock, .code yX2_wholeStock cX2_wholeStock 3 (some .int), .fieldLink RX2 15 "MarkdownPlanner$Store" "pieces" "[I"] ++ wsX20 ++ wsX30 ++ (vx_atS RX3 109 "java/lang/IllegalArgumentException" ["java/lang/RuntimeException", "java/lang/Exception"]).filter goodWord ++ (vx_atS RX3 55 "java/lang/IllegalStateException" ["java/lang/RuntimeException", "java/lang/Exception"]).filter goodWord)
def wsX3_requireSeasonOn : List Cond := .code yX3_requireSeasonOn cX3_requireSeasonOn 1 none :: ([.classLink RX3 51 "java/lang/IllegalStateException", .initialized "java/lang/IllegalStateException", .fieldLink RX3 12 "MarkdownPlanner" "season" "LMarkdownPlanner$Season;"] ++ wsX30 ++ wsX10 ++ (vx_atS RX3 55 "java/lang/IllegalStateException" ["java/lang/RuntimeException", "java/lang/Exception"]).filter goodWord)
def wsX3_markDown_r1 : List Cond := [Cond.classLink RX3 51 "java/lang/IllegalStateException", Cond.initialized "java/lang/IllegalStateException", Cond.fieldLink RX3 12 "MarkdownPlanner" "season" "LMarkdownPlanner$Season;", Cond.methodLink RX3 62 yX3_storeOf, Cond.instanceMethod yX3_storeOf, Cond.selects RX3 yX3_storeOf yX3_storeOf, Cond.initialized RX3, Cond.code yX3_storeOf cX3_storeOf 2 (some (.object "MarkdownPlanner$Store")), Cond.fieldLink RX3 18 "MarkdownPlanner" "stores" "[LMarkdownPlanner$Store;", Cond.methodLink RX3 30 yX3_requireWithin, Cond.static yX3_requireWithin, Cond.code yX3_requireWithin cX3_requireWithin 3 none, Cond.classLink RX3 105 "java/lang/IllegalArgumentException", Cond.initialized "java/lang/IllegalArgumentException", Cond.methodLink RX3 44 yX3_requireStep, Cond.static yX3_requireStep, Cond.code yX3_requireStep cX3_requireStep 1 none, Cond.methodLink RX3 88 yX3_requireSeasonOn, Cond.instanceMethod yX3_requireSeasonOn, Cond.selects RX3 yX3_requireSeasonOn yX3_requireSeasonOn, Cond.code yX3_requireSeasonOn cX3_requireSeasonOn 1 none, Cond.instanceMethod yX2_waitFrom, Cond.initialized RX2, Cond.selects RX2 yX2_waitFrom yX2_waitFrom]
def wsX3_markDown_r2 : List Cond := [Cond.code yX2_waitFrom cX2_waitFrom 3 (some .int), Cond.fieldLink RX2 18 "MarkdownPlanner$Store" "markedDownIn" "I", Cond.methodLink RX2 28 Lib.Math.max.name, Cond.static Lib.Math.max.name, Cond.initialized "java/lang/Math", Cond.code Lib.Math.max.name Lib.Math.max.code 2 (some .int)]
def wsX3_markDown : List Cond := .code yX3_markDown cX3_markDown 4 (some .int) :: ((wsX3_markDown_r1 ++ wsX3_markDown_r2) ++ wsX20 ++ wsX30 ++ wsX10 ++ (vx_atS RX3 55 "java/lang/IllegalStateException" ["java/lang/RuntimeException", "java/lang/Exception"]).filter goodWord ++ (vx_atS RX3 109 "java/lang/IllegalArgumentException" ["java/lang/RuntimeException", "java/lang/Exception"]).filter goodWord)
def wsX3_move_r1 : List Cond := [Cond.classLink RX3 105 "java/lang/IllegalArgumentException", Cond.initialized "java/lang/IllegalArgumentException", Cond.classLink RX3 51 "java/lang/IllegalStateException", Cond.initialized "java/lang/IllegalStateException", Cond.fieldLink RX3 12 "MarkdownPlanner" "season" "LMarkdownPlanner$Season;", Cond.methodLink RX3 62 yX3_storeOf, Cond.instanceMethod yX3_storeOf, Cond.selects RX3 yX3_storeOf yX3_storeOf, Cond.initialized RX3, Cond.code yX3_storeOf cX3_storeOf 2 (some (.object "MarkdownPlanner$Store")), Cond.fieldLink RX3 18 "MarkdownPlanner" "stores" "[LMarkdownPlanner$Store;", Cond.methodLink RX3 30 yX3_requireWithin, Cond.static yX3_requireWithin, Cond.code yX3_requireWithin cX3_requireWithin 3 none, Cond.methodLink RX3 78 yX3_requireSize, Cond.static yX3_requireSize, Cond.code yX3_requireSize cX3_requireSize 1 none, Cond.methodLink RX3 88 yX3_requireSeasonOn, Cond.instanceMethod yX3_requireSeasonOn, Cond.selects RX3 yX3_requireSeasonOn yX3_requireSeasonOn, Cond.code yX3_requireSeasonOn cX3_requireSeasonOn 1 none, Cond.methodLink RX3 81 yX3_requireRoomFor, Cond.static yX3_requireRoomFor, Cond.code yX3_requireRoomFor cX3_requireRoomFor 2 none]
def wsX3_move_r2 : List Cond := [Cond.instanceMethod yX2_wholeStock, Cond.initialized RX2, Cond.selects RX2 yX2_wholeStock yX2_wholeStock, Cond.code yX2_wholeStock cX2_wholeStock 3 (some .int), Cond.fieldLink RX2 15 "MarkdownPlanner$Store" "pieces" "[I"]
def wsX3_move : List Cond := .code yX3_move cX3_move 8 (some .int) :: ((wsX3_move_r1 ++ wsX3_move_r2) ++ wsX20 ++ wsX30 ++ wsX10 ++ (vx_atS RX3 109 "java/lang/IllegalArgumentException" ["java/lang/RuntimeException", "java/lang/Exception"]).filter goodWord ++ (vx_atS RX3 55 "java/lang/IllegalStateException" ["java/lang/RuntimeException", "java/lang/Exception"]).filter goodWord)
def wsX3_run_r1 : List Cond := [Cond.fieldLink RX3 18 "MarkdownPlanner" "stores" "[LMarkdownPlanner$Store;", Cond.fieldLink RX3 12 "MarkdownPlanner" "season" "LMarkdownPlanner$Season;", Cond.methodLink RX3 88 yX3_requireSeasonOn, Cond.instanceMethod yX3_requireSeasonOn, Cond.selects RX3 yX3_requireSeasonOn yX3_requireSeasonOn, Cond.initialized RX3, Cond.code yX3_requireSeasonOn cX3_requireSeasonOn 1 none, Cond.classLink RX3 51 "java/lang/IllegalStateException", Cond.initialized "java/lang/IllegalStateException", Cond.instanceMethod yX2_sellForAWeek, Cond.initialized RX2, Cond.selects RX2 yX2_sellForAWeek yX2_sellForAWeek, Cond.code yX2_sellForAWeek cX2_sellForAWeek 3 (some .int), Cond.fieldLink RX2 22 "MarkdownPlanner$Store" "step" "I", Cond.fieldLink RX2 15 "MarkdownPlanner$Store" "pieces" "[I", Cond.fieldLink RX2 25 "MarkdownPlanner$Store" "piecesSold" "I", Cond.methodLink RX2 44 yX2_salesAt, Cond.instanceMethod yX2_salesAt, Cond.selects RX2 yX2_salesAt yX2_salesAt, Cond.code yX2_salesAt cX2_salesAt 2 (some .int), Cond.fieldLink RX2 9 "MarkdownPlanner$Store" "demands" "[I", Cond.methodLink RX2 41 Lib.Math.min.name, Cond.static Lib.Math.min.name, Cond.initialized "java/lang/Math"]
def wsX3_run_r2 : List Cond := [Cond.code Lib.Math.min.name Lib.Math.min.code 2 (some .int), Cond.methodLink RX2 34 yX2_sizesInStock, Cond.instanceMethod yX2_sizesInStock, Cond.selects RX2 yX2_sizesInStock yX2_sizesInStock, Cond.code yX2_sizesInStock cX2_sizesInStock 3 (some .int), Cond.methodLink RX2 38 yX2_wholeStock, Cond.instanceMethod yX2_wholeStock, Cond.selects RX2 yX2_wholeStock yX2_wholeStock, Cond.code yX2_wholeStock cX2_wholeStock 3 (some .int), Cond.methodLink RX2 48 yX2_fullestSize, Cond.instanceMethod yX2_fullestSize, Cond.selects RX2 yX2_fullestSize yX2_fullestSize, Cond.code yX2_fullestSize cX2_fullestSize 3 (some .int)]
def wsX3_run : List Cond := .code yX3_run cX3_run 6 (some .int) :: ((wsX3_run_r1 ++ wsX3_run_r2) ++ wsX30 ++ wsX10 ++ wsX20 ++ (vx_atS RX3 55 "java/lang/IllegalStateException" ["java/lang/RuntimeException", "java/lang/Exception"]).filter goodWord)
def wsX3_week : List Cond := .code yX3_week cX3_week 1 (some .int) :: ([.fieldLink RX3 12 "MarkdownPlanner" "season" "LMarkdownPlanner$Season;"] ++ wsX30 ++ wsX10)
def wsX3_stock : List Cond := .code yX3_stock cX3_stock 4 (some .int) :: ([.methodLink RX3 62 yX3_storeOf, .instanceMethod yX3_storeOf, .selects RX3 yX3_storeOf yX3_storeOf, .initialized RX3, .code yX3_storeOf cX3_storeOf 2 (some (.object "MarkdownPlanner$Store")), .fieldLink RX3 18 "MarkdownPlanner" "stores" "[LMarkdownPlanner$Store;", .methodLink RX3 30 yX3_requireWithin, .static yX3_requireWithin, .code yX3_requireWithin cX3_requireWithin 3 none, .classLink RX3 105 "java/lang/IllegalArgumentException", .initialized "java/lang/IllegalArgumentException", .methodLink RX3 78 yX3_requireSize, .static yX3_requireSize, .code yX3_requireSize cX3_requireSize 1 none] ++ wsX20 ++ wsX30 ++ (vx_atS RX3 109 "java/lang/IllegalArgumentException" ["java/lang/RuntimeException", "java/lang/Exception"]).filter goodWord)
def wsX3_step : List Cond := .code yX3_step cX3_step 2 (some .int) :: ([.methodLink RX3 62 yX3_storeOf, .instanceMethod yX3_storeOf, .selects RX3 yX3_storeOf yX3_storeOf, .initialized RX3, .code yX3_storeOf cX3_storeOf 2 (some (.object "MarkdownPlanner$Store")), .fieldLink RX3 18 "MarkdownPlanner" "stores" "[LMarkdownPlanner$Store;", .methodLink RX3 30 yX3_requireWithin, .static yX3_requireWithin, .code yX3_requireWithin cX3_requireWithin 3 none, .classLink RX3 105 "java/lang/IllegalArgumentException", .initialized "java/lang/IllegalArgumentException"] ++ wsX20 ++ wsX30 ++ (vx_atS RX3 109 "java/lang/IllegalArgumentException" ["java/lang/RuntimeException", "java/lang/Exception"]).filter goodWord)
def wsX3_weeksToWait : List Cond := .code yX3_weeksToWait cX3_weeksToWait 2 (some .int) :: ([.fieldLink RX3 12 "MarkdownPlanner" "season" "LMarkdownPlanner$Season;", .methodLink RX3 62 yX3_storeOf, .instanceMethod yX3_storeOf, .selects RX3 yX3_storeOf yX3_storeOf, .initialized RX3, .code yX3_storeOf cX3_storeOf 2 (some (.object "MarkdownPlanner$Store")), .fieldLink RX3 18 "MarkdownPlanner" "stores" "[LMarkdownPlanner$Store;", .methodLink RX3 30 yX3_requireWithin, .static yX3_requireWithin, .code yX3_requireWithin cX3_requireWithin 3 none, .classLink RX3 105 "java/lang/IllegalArgumentException", .initialized "java/lang/IllegalArgumentException", .instanceMethod yX2_waitFrom, .initialized RX2, .selects RX2 yX2_waitFrom yX2_waitFrom, .code yX2_waitFrom cX2_waitFrom 3 (some .int), .fieldLink RX2 18 "MarkdownPlanner$Store" "markedDownIn" "I", .methodLink RX2 28 Lib.Math.max.name, .static Lib.Math.max.name, .initialized "java/lang/Math", .code Lib.Math.max.name Lib.Math.max.code 2 (some .int)] ++ wsX30 ++ wsX10 ++ wsX20 ++ (vx_atS RX3 109 "java/lang/IllegalArgumentException" ["java/lang/RuntimeException", "java/lang/Exception"]).filter goodWord)
def wsX3_sold : List Cond := .code yX3_sold cX3_sold 2 (some .int) :: ([.methodLink RX3 62 yX3_storeOf, .instanceMethod yX3_storeOf, .selects RX3 yX3_storeOf yX3_storeOf, .initialized RX3, .code yX3_storeOf cX3_storeOf 2 (some (.object "MarkdownPlanner$Store")), .fieldLink RX3 18 "MarkdownPlanner" "stores" "[LMarkdownPlanner$Store;", .methodLink RX3 30 yX3_requireWithin, .static yX3_requireWithin, .code yX3_requireWithin cX3_requireWithin 3 none, .classLink RX3 105 "java/lang/IllegalArgumentException", .initialized "java/lang/IllegalArgumentException"] ++ wsX20 ++ wsX30 ++ (vx_atS RX3 109 "java/lang/IllegalArgumentException" ["java/lang/RuntimeException", "java/lang/Exception"]).filter goodWord)
def wsX3_taken : List Cond := .code yX3_taken cX3_taken 1 (some .int) :: ([.fieldLink RX3 12 "MarkdownPlanner" "season" "LMarkdownPlanner$Season;"] ++ wsX30 ++ wsX10)
def wsX3_wouldSell_r1 : List Cond := [Cond.methodLink RX3 62 yX3_storeOf, Cond.instanceMethod yX3_storeOf, Cond.selects RX3 yX3_storeOf yX3_storeOf, Cond.initialized RX3, Cond.code yX3_storeOf cX3_storeOf 2 (some (.object "MarkdownPlanner$Store")), Cond.fieldLink RX3 18 "MarkdownPlanner" "stores" "[LMarkdownPlanner$Store;", Cond.methodLink RX3 30 yX3_requireWithin, Cond.static yX3_requireWithin, Cond.code yX3_requireWithin cX3_requireWithin 3 none, Cond.classLink RX3 105 "java/lang/IllegalArgumentException", Cond.initialized "java/lang/IllegalArgumentException", Cond.methodLink RX3 44 yX3_requireStep, Cond.static yX3_requireStep, Cond.code yX3_requireStep cX3_requireStep 1 none, Cond.instanceMethod yX2_salesAt, Cond.initialized RX2, Cond.selects RX2 yX2_salesAt yX2_salesAt, Cond.code yX2_salesAt cX2_salesAt 2 (some .int), Cond.fieldLink RX2 9 "MarkdownPlanner$Store" "demands" "[I", Cond.methodLink RX2 41 Lib.Math.min.name, Cond.static Lib.Math.min.name, Cond.initialized "java/lang/Math", Cond.code Lib.Math.min.name Lib.Math.min.code 2 (some .int), Cond.methodLink RX2 34 yX2_sizesInStock]
def wsX3_wouldSell_r2 : List Cond := [Cond.instanceMethod yX2_sizesInStock, Cond.selects RX2 yX2_sizesInStock yX2_sizesInStock, Cond.code yX2_sizesInStock cX2_sizesInStock 3 (some .int), Cond.fieldLink RX2 15 "MarkdownPlanner$Store" "pieces" "[I", Cond.methodLink RX2 38 yX2_wholeStock, Cond.instanceMethod yX2_wholeStock, Cond.selects RX2 yX2_wholeStock yX2_wholeStock, Cond.code yX2_wholeStock cX2_wholeStock 3 (some .int)]
def wsX3_wouldSell : List Cond := .code yX3_wouldSell cX3_wouldSell 4 (some .int) :: ((wsX3_wouldSell_r1 ++ wsX3_wouldSell_r2) ++ wsX30 ++ wsX20 ++ (vx_atS RX3 109 "java/lang/IllegalArgumentException" ["java/lang/RuntimeException", "java/lang/Exception"]).filter goodWord)
def wsX3_best_r1 : List Cond := [Cond.fieldLink RX3 25 "MarkdownPlanner" "plans" "LMarkdownPlanner$Plans;", Cond.fieldLink RX3 12 "MarkdownPlanner" "season" "LMarkdownPlanner$Season;", Cond.methodLink RX3 62 yX3_storeOf, Cond.instanceMethod yX3_storeOf, Cond.selects RX3 yX3_storeOf yX3_storeOf, Cond.initialized RX3, Cond.code yX3_storeOf cX3_storeOf 2 (some (.object "MarkdownPlanner$Store")), Cond.fieldLink RX3 18 "MarkdownPlanner" "stores" "[LMarkdownPlanner$Store;", Cond.methodLink RX3 30 yX3_requireWithin, Cond.static yX3_requireWithin, Cond.code yX3_requireWithin cX3_requireWithin 3 none, Cond.classLink RX3 105 "java/lang/IllegalArgumentException", Cond.initialized "java/lang/IllegalArgumentException", Cond.instanceMethod yX0_lookAt, Cond.initialized RX0, Cond.selects RX0 yX0_lookAt yX0_lookAt, Cond.code yX0_lookAt cX0_lookAt 3 none, Cond.fieldLink RX0 9 "MarkdownPlanner$Plans" "prices" "[I", Cond.methodLink RX0 27 arraycopyName, Cond.native arraycopyName, Cond.static arraycopyName, Cond.initialized "java/lang/System", Cond.fieldLink RX0 15 "MarkdownPlanner$Plans" "demands" "[I", Cond.fieldLink RX0 40 "MarkdownPlanner$Plans" "firstWeek" "I"]
def wsX3_best_r2 : List Cond := [Cond.fieldLink RX0 46 "MarkdownPlanner$Plans" "endWeek" "I", Cond.fieldLink RX0 52 "MarkdownPlanner$Plans" "gap" "I", Cond.fieldLink RX0 56 "MarkdownPlanner$Plans" "remnant" "I", Cond.methodLink RX0 61 Lib.Math.min.name, Cond.static Lib.Math.min.name, Cond.initialized "java/lang/Math", Cond.code Lib.Math.min.name Lib.Math.min.code 2 (some .int), Cond.fieldLink RX0 66 "MarkdownPlanner$Plans" "freeWeek" "I", Cond.fieldLink RX0 72 "MarkdownPlanner$Plans" "ownStep" "I", Cond.fieldLink RX0 79 "MarkdownPlanner$Plans" "ownStock" "I", Cond.instanceMethod yX2_waitFrom, Cond.initialized RX2, Cond.selects RX2 yX2_waitFrom yX2_waitFrom, Cond.code yX2_waitFrom cX2_waitFrom 3 (some .int), Cond.fieldLink RX2 18 "MarkdownPlanner$Store" "markedDownIn" "I", Cond.methodLink RX2 28 Lib.Math.max.name, Cond.static Lib.Math.max.name, Cond.code Lib.Math.max.name Lib.Math.max.code 2 (some .int), Cond.instanceMethod yX2_wholeStock, Cond.selects RX2 yX2_wholeStock yX2_wholeStock, Cond.code yX2_wholeStock cX2_wholeStock 3 (some .int), Cond.fieldLink RX2 15 "MarkdownPlanner$Store" "pieces" "[I", Cond.instanceMethod yX0_greatestWorth, Cond.selects RX0 yX0_greatestWorth yX0_greatestWorth]
def wsX3_best_r3 : List Cond := [Cond.code yX0_greatestWorth cX0_greatestWorth 2 (some .int), Cond.methodLink RX0 82 yX0_tellWorths, Cond.instanceMethod yX0_tellWorths, Cond.selects RX0 yX0_tellWorths yX0_tellWorths, Cond.code yX0_tellWorths cX0_tellWorths 5 none, Cond.fieldLink RX0 94 "MarkdownPlanner$Plans" "mostLeft" "I", Cond.fieldLink RX0 18 "MarkdownPlanner$Plans" "worths" "[I", Cond.methodLink RX0 97 yX0_placeOf, Cond.static yX0_placeOf, Cond.code yX0_placeOf cX0_placeOf 3 (some .int), Cond.methodLink RX0 100 yX0_worthOfChoosing, Cond.instanceMethod yX0_worthOfChoosing, Cond.selects RX0 yX0_worthOfChoosing yX0_worthOfChoosing, Cond.code yX0_worthOfChoosing cX0_worthOfChoosing 6 (some .int), Cond.methodLink RX0 106 Lib.Math.max.name, Cond.methodLink RX0 103 yX0_worthOfTaking, Cond.instanceMethod yX0_worthOfTaking, Cond.selects RX0 yX0_worthOfTaking yX0_worthOfTaking, Cond.code yX0_worthOfTaking cX0_worthOfTaking 5 (some .int), Cond.methodLink RX0 86 yX0_worthOfKeeping, Cond.instanceMethod yX0_worthOfKeeping, Cond.selects RX0 yX0_worthOfKeeping yX0_worthOfKeeping, Cond.code yX0_worthOfKeeping cX0_worthOfKeeping 8 (some .int), Cond.methodLink RX0 109 yX0_worthFrom]
def wsX3_best_r4 : List Cond := [Cond.instanceMethod yX0_worthFrom, Cond.selects RX0 yX0_worthFrom yX0_worthFrom, Cond.code yX0_worthFrom cX0_worthFrom 4 (some .int)]
def wsX3_best : List Cond := .code yX3_best cX3_best 2 (some .int) :: ((wsX3_best_r1 ++ (wsX3_best_r2 ++ (wsX3_best_r3 ++ wsX3_best_r4))) ++ wsX30 ++ wsX10 ++ wsX00 ++ wsX20 ++ (vx_atS RX3 109 "java/lang/IllegalArgumentException" ["java/lang/RuntimeException", "java/lang/Exception"]).filter goodWord)
def wsX3_bestByAll_r1 : List Cond := [Cond.classLink RX3 51 "java/lang/IllegalStateException", Cond.initialized "java/lang/IllegalStateException", Cond.fieldLink RX3 12 "MarkdownPlanner" "season" "LMarkdownPlanner$Season;", Cond.fieldLink RX3 25 "MarkdownPlanner" "plans" "LMarkdownPlanner$Plans;", Cond.methodLink RX3 62 yX3_storeOf, Cond.instanceMethod yX3_storeOf, Cond.selects RX3 yX3_storeOf yX3_storeOf, Cond.initialized RX3, Cond.code yX3_storeOf cX3_storeOf 2 (some (.object "MarkdownPlanner$Store")), Cond.fieldLink RX3 18 "MarkdownPlanner" "stores" "[LMarkdownPlanner$Store;", Cond.methodLink RX3 30 yX3_requireWithin, Cond.static yX3_requireWithin, Cond.code yX3_requireWithin cX3_requireWithin 3 none, Cond.classLink RX3 105 "java/lang/IllegalArgumentException", Cond.initialized "java/lang/IllegalArgumentException", Cond.instanceMethod yX0_lookAt, Cond.initialized RX0, Cond.selects RX0 yX0_lookAt yX0_lookAt, Cond.code yX0_lookAt cX0_lookAt 3 none, Cond.fieldLink RX0 9 "MarkdownPlanner$Plans" "prices" "[I", Cond.methodLink RX0 27 arraycopyName, Cond.native arraycopyName, Cond.static arraycopyName, Cond.initialized "java/lang/System"]
def wsX3_bestByAll_r2 : List Cond := [Cond.fieldLink RX0 15 "MarkdownPlanner$Plans" "demands" "[I", Cond.fieldLink RX0 40 "MarkdownPlanner$Plans" "firstWeek" "I", Cond.fieldLink RX0 46 "MarkdownPlanner$Plans" "endWeek" "I", Cond.fieldLink RX0 52 "MarkdownPlanner$Plans" "gap" "I", Cond.fieldLink RX0 56 "MarkdownPlanner$Plans" "remnant" "I", Cond.methodLink RX0 61 Lib.Math.min.name, Cond.static Lib.Math.min.name, Cond.initialized "java/lang/Math", Cond.code Lib.Math.min.name Lib.Math.min.code 2 (some .int), Cond.fieldLink RX0 66 "MarkdownPlanner$Plans" "freeWeek" "I", Cond.fieldLink RX0 72 "MarkdownPlanner$Plans" "ownStep" "I", Cond.fieldLink RX0 79 "MarkdownPlanner$Plans" "ownStock" "I", Cond.instanceMethod yX2_waitFrom, Cond.initialized RX2, Cond.selects RX2 yX2_waitFrom yX2_waitFrom, Cond.code yX2_waitFrom cX2_waitFrom 3 (some .int), Cond.fieldLink RX2 18 "MarkdownPlanner$Store" "markedDownIn" "I", Cond.methodLink RX2 28 Lib.Math.max.name, Cond.static Lib.Math.max.name, Cond.code Lib.Math.max.name Lib.Math.max.code 2 (some .int), Cond.instanceMethod yX2_wholeStock, Cond.selects RX2 yX2_wholeStock yX2_wholeStock, Cond.code yX2_wholeStock cX2_wholeStock 3 (some .int), Cond.fieldLink RX2 15 "MarkdownPlanner$Store" "pieces" "[I"]
def wsX3_bestByAll_r3 : List Cond := [Cond.instanceMethod yX0_greatestWorthByAll, Cond.selects RX0 yX0_greatestWorthByAll yX0_greatestWorthByAll, Cond.code yX0_greatestWorthByAll cX0_greatestWorthByAll 5 (some .int), Cond.fieldLink RX0 21 "MarkdownPlanner$Plans" "ladder" "[I", Cond.constant RX0 112 (1000000), Cond.methodLink RX0 106 Lib.Math.max.name, Cond.methodLink RX0 113 yX0_worthOfLadder, Cond.instanceMethod yX0_worthOfLadder, Cond.selects RX0 yX0_worthOfLadder yX0_worthOfLadder, Cond.code yX0_worthOfLadder cX0_worthOfLadder 9 (some .int), Cond.methodLink RX0 117 yX0_turnToNextLadder, Cond.instanceMethod yX0_turnToNextLadder, Cond.selects RX0 yX0_turnToNextLadder yX0_turnToNextLadder, Cond.code yX0_turnToNextLadder cX0_turnToNextLadder 5 (some .boolean)]
def wsX3_bestByAll : List Cond := .code yX3_bestByAll cX3_bestByAll 3 (some .int) :: ((wsX3_bestByAll_r1 ++ (wsX3_bestByAll_r2 ++ wsX3_bestByAll_r3)) ++ wsX30 ++ wsX10 ++ wsX00 ++ wsX20 ++ (vx_atS RX3 55 "java/lang/IllegalStateException" ["java/lang/RuntimeException", "java/lang/Exception"]).filter goodWord ++ (vx_atS RX3 109 "java/lang/IllegalArgumentException" ["java/lang/RuntimeException", "java/lang/Exception"]).filter goodWord)
def wsX3_planned_r1 : List Cond := [Cond.fieldLink RX3 12 "MarkdownPlanner" "season" "LMarkdownPlanner$Season;", Cond.fieldLink RX3 25 "MarkdownPlanner" "plans" "LMarkdownPlanner$Plans;", Cond.methodLink RX3 62 yX3_storeOf, Cond.instanceMethod yX3_storeOf, Cond.selects RX3 yX3_storeOf yX3_storeOf, Cond.initialized RX3, Cond.code yX3_storeOf cX3_storeOf 2 (some (.object "MarkdownPlanner$Store")), Cond.fieldLink RX3 18 "MarkdownPlanner" "stores" "[LMarkdownPlanner$Store;", Cond.methodLink RX3 30 yX3_requireWithin, Cond.static yX3_requireWithin, Cond.code yX3_requireWithin cX3_requireWithin 3 none, Cond.classLink RX3 105 "java/lang/IllegalArgumentException", Cond.initialized "java/lang/IllegalArgumentException", Cond.instanceMethod yX0_lookAt, Cond.initialized RX0, Cond.selects RX0 yX0_lookAt yX0_lookAt, Cond.code yX0_lookAt cX0_lookAt 3 none, Cond.fieldLink RX0 9 "MarkdownPlanner$Plans" "prices" "[I", Cond.methodLink RX0 27 arraycopyName, Cond.native arraycopyName, Cond.static arraycopyName, Cond.initialized "java/lang/System", Cond.fieldLink RX0 15 "MarkdownPlanner$Plans" "demands" "[I", Cond.fieldLink RX0 40 "MarkdownPlanner$Plans" "firstWeek" "I"]
def wsX3_planned_r2 : List Cond := [Cond.fieldLink RX0 46 "MarkdownPlanner$Plans" "endWeek" "I", Cond.fieldLink RX0 52 "MarkdownPlanner$Plans" "gap" "I", Cond.fieldLink RX0 56 "MarkdownPlanner$Plans" "remnant" "I", Cond.methodLink RX0 61 Lib.Math.min.name, Cond.static Lib.Math.min.name, Cond.initialized "java/lang/Math", Cond.code Lib.Math.min.name Lib.Math.min.code 2 (some .int), Cond.fieldLink RX0 66 "MarkdownPlanner$Plans" "freeWeek" "I", Cond.fieldLink RX0 72 "MarkdownPlanner$Plans" "ownStep" "I", Cond.fieldLink RX0 79 "MarkdownPlanner$Plans" "ownStock" "I", Cond.instanceMethod yX2_waitFrom, Cond.initialized RX2, Cond.selects RX2 yX2_waitFrom yX2_waitFrom, Cond.code yX2_waitFrom cX2_waitFrom 3 (some .int), Cond.fieldLink RX2 18 "MarkdownPlanner$Store" "markedDownIn" "I", Cond.methodLink RX2 28 Lib.Math.max.name, Cond.static Lib.Math.max.name, Cond.code Lib.Math.max.name Lib.Math.max.code 2 (some .int), Cond.instanceMethod yX2_wholeStock, Cond.selects RX2 yX2_wholeStock yX2_wholeStock, Cond.code yX2_wholeStock cX2_wholeStock 3 (some .int), Cond.fieldLink RX2 15 "MarkdownPlanner$Store" "pieces" "[I", Cond.instanceMethod yX0_bestStepIn, Cond.selects RX0 yX0_bestStepIn yX0_bestStepIn]
def wsX3_planned_r3 : List Cond := [Cond.code yX0_bestStepIn cX0_bestStepIn 7 (some .int), Cond.methodLink RX0 82 yX0_tellWorths, Cond.instanceMethod yX0_tellWorths, Cond.selects RX0 yX0_tellWorths yX0_tellWorths, Cond.code yX0_tellWorths cX0_tellWorths 5 none, Cond.fieldLink RX0 94 "MarkdownPlanner$Plans" "mostLeft" "I", Cond.fieldLink RX0 18 "MarkdownPlanner$Plans" "worths" "[I", Cond.methodLink RX0 97 yX0_placeOf, Cond.static yX0_placeOf, Cond.code yX0_placeOf cX0_placeOf 3 (some .int), Cond.methodLink RX0 100 yX0_worthOfChoosing, Cond.instanceMethod yX0_worthOfChoosing, Cond.selects RX0 yX0_worthOfChoosing yX0_worthOfChoosing, Cond.code yX0_worthOfChoosing cX0_worthOfChoosing 6 (some .int), Cond.methodLink RX0 106 Lib.Math.max.name, Cond.methodLink RX0 103 yX0_worthOfTaking, Cond.instanceMethod yX0_worthOfTaking, Cond.selects RX0 yX0_worthOfTaking yX0_worthOfTaking, Cond.code yX0_worthOfTaking cX0_worthOfTaking 5 (some .int), Cond.methodLink RX0 86 yX0_worthOfKeeping, Cond.instanceMethod yX0_worthOfKeeping, Cond.selects RX0 yX0_worthOfKeeping yX0_worthOfKeeping, Cond.code yX0_worthOfKeeping cX0_worthOfKeeping 8 (some .int), Cond.methodLink RX0 109 yX0_worthFrom]
def wsX3_planned_r4 : List Cond := [Cond.instanceMethod yX0_worthFrom, Cond.selects RX0 yX0_worthFrom yX0_worthFrom, Cond.code yX0_worthFrom cX0_worthFrom 4 (some .int), Cond.methodLink RX0 90 yX0_lowestBestStep, Cond.instanceMethod yX0_lowestBestStep, Cond.selects RX0 yX0_lowestBestStep yX0_lowestBestStep, Cond.code yX0_lowestBestStep cX0_lowestBestStep 6 (some .int)]
def wsX3_planned : List Cond := .code yX3_planned cX3_planned 4 (some .int) :: ((wsX3_planned_r1 ++ (wsX3_planned_r2 ++ (wsX3_planned_r3 ++ wsX3_planned_r4))) ++ wsX30 ++ wsX10 ++ wsX00 ++ wsX20 ++ (vx_atS RX3 109 "java/lang/IllegalArgumentException" ["java/lang/RuntimeException", "java/lang/Exception"]).filter goodWord)
def wsX3_bestLeaving_r1 : List Cond := [Cond.fieldLink RX3 25 "MarkdownPlanner" "plans" "LMarkdownPlanner$Plans;", Cond.fieldLink RX3 12 "MarkdownPlanner" "season" "LMarkdownPlanner$Season;", Cond.methodLink RX3 62 yX3_storeOf, Cond.instanceMethod yX3_storeOf, Cond.selects RX3 yX3_storeOf yX3_storeOf, Cond.initialized RX3, Cond.code yX3_storeOf cX3_storeOf 2 (some (.object "MarkdownPlanner$Store")), Cond.fieldLink RX3 18 "MarkdownPlanner" "stores" "[LMarkdownPlanner$Store;", Cond.methodLink RX3 30 yX3_requireWithin, Cond.static yX3_requireWithin, Cond.code yX3_requireWithin cX3_requireWithin 3 none, Cond.classLink RX3 105 "java/lang/IllegalArgumentException", Cond.initialized "java/lang/IllegalArgumentException", Cond.instanceMethod yX0_lookAt, Cond.initialized RX0, Cond.selects RX0 yX0_lookAt yX0_lookAt, Cond.code yX0_lookAt cX0_lookAt 3 none, Cond.fieldLink RX0 9 "MarkdownPlanner$Plans" "prices" "[I", Cond.methodLink RX0 27 arraycopyName, Cond.native arraycopyName, Cond.static arraycopyName, Cond.initialized "java/lang/System", Cond.fieldLink RX0 15 "MarkdownPlanner$Plans" "demands" "[I", Cond.fieldLink RX0 40 "MarkdownPlanner$Plans" "firstWeek" "I"]
def wsX3_bestLeaving_r2 : List Cond := [Cond.fieldLink RX0 46 "MarkdownPlanner$Plans" "endWeek" "I", Cond.fieldLink RX0 52 "MarkdownPlanner$Plans" "gap" "I", Cond.fieldLink RX0 56 "MarkdownPlanner$Plans" "remnant" "I", Cond.methodLink RX0 61 Lib.Math.min.name, Cond.static Lib.Math.min.name, Cond.initialized "java/lang/Math", Cond.code Lib.Math.min.name Lib.Math.min.code 2 (some .int), Cond.fieldLink RX0 66 "MarkdownPlanner$Plans" "freeWeek" "I", Cond.fieldLink RX0 72 "MarkdownPlanner$Plans" "ownStep" "I", Cond.fieldLink RX0 79 "MarkdownPlanner$Plans" "ownStock" "I", Cond.instanceMethod yX2_waitFrom, Cond.initialized RX2, Cond.selects RX2 yX2_waitFrom yX2_waitFrom, Cond.code yX2_waitFrom cX2_waitFrom 3 (some .int), Cond.fieldLink RX2 18 "MarkdownPlanner$Store" "markedDownIn" "I", Cond.methodLink RX2 28 Lib.Math.max.name, Cond.static Lib.Math.max.name, Cond.code Lib.Math.max.name Lib.Math.max.code 2 (some .int), Cond.instanceMethod yX2_wholeStock, Cond.selects RX2 yX2_wholeStock yX2_wholeStock, Cond.code yX2_wholeStock cX2_wholeStock 3 (some .int), Cond.fieldLink RX2 15 "MarkdownPlanner$Store" "pieces" "[I", Cond.instanceMethod yX0_greatestWorth, Cond.selects RX0 yX0_greatestWorth yX0_greatestWorth]
def wsX3_bestLeaving_r3 : List Cond := [Cond.code yX0_greatestWorth cX0_greatestWorth 2 (some .int), Cond.methodLink RX0 82 yX0_tellWorths, Cond.instanceMethod yX0_tellWorths, Cond.selects RX0 yX0_tellWorths yX0_tellWorths, Cond.code yX0_tellWorths cX0_tellWorths 5 none, Cond.fieldLink RX0 94 "MarkdownPlanner$Plans" "mostLeft" "I", Cond.fieldLink RX0 18 "MarkdownPlanner$Plans" "worths" "[I", Cond.methodLink RX0 97 yX0_placeOf, Cond.static yX0_placeOf, Cond.code yX0_placeOf cX0_placeOf 3 (some .int), Cond.methodLink RX0 100 yX0_worthOfChoosing, Cond.instanceMethod yX0_worthOfChoosing, Cond.selects RX0 yX0_worthOfChoosing yX0_worthOfChoosing, Cond.code yX0_worthOfChoosing cX0_worthOfChoosing 6 (some .int), Cond.methodLink RX0 106 Lib.Math.max.name, Cond.methodLink RX0 103 yX0_worthOfTaking, Cond.instanceMethod yX0_worthOfTaking, Cond.selects RX0 yX0_worthOfTaking yX0_worthOfTaking, Cond.code yX0_worthOfTaking cX0_worthOfTaking 5 (some .int), Cond.methodLink RX0 86 yX0_worthOfKeeping, Cond.instanceMethod yX0_worthOfKeeping, Cond.selects RX0 yX0_worthOfKeeping yX0_worthOfKeeping, Cond.code yX0_worthOfKeeping cX0_worthOfKeeping 8 (some .int), Cond.methodLink RX0 109 yX0_worthFrom]
def wsX3_bestLeaving_r4 : List Cond := [Cond.instanceMethod yX0_worthFrom, Cond.selects RX0 yX0_worthFrom yX0_worthFrom, Cond.code yX0_worthFrom cX0_worthFrom 4 (some .int)]
def wsX3_bestLeaving : List Cond := .code yX3_bestLeaving cX3_bestLeaving 4 (some .int) :: ((wsX3_bestLeaving_r1 ++ (wsX3_bestLeaving_r2 ++ (wsX3_bestLeaving_r3 ++ wsX3_bestLeaving_r4))) ++ wsX30 ++ wsX10 ++ wsX00 ++ wsX20 ++ (vx_atS RX3 109 "java/lang/IllegalArgumentException" ["java/lang/RuntimeException", "java/lang/Exception"]).filter goodWord)
def wsX4_init : List Cond := .code yX4_init cX4_init 2 none :: ([.methodLink RX4 1 objectInit, .instanceMethod objectInit, .code objectInit ⟨#[0xb1]⟩ 1 none, .fieldLink RX4 7 "MarkdownPlannerModel" "weeks" "I", .arrayClass .int, .fieldLink RX4 13 "MarkdownPlannerModel" "price" "[I", .fieldLink RX4 17 "MarkdownPlannerModel" "demand" "[I", .fieldLink RX4 20 "MarkdownPlannerModel" "gap" "I", .fieldLink RX4 23 "MarkdownPlannerModel" "stock" "[I", .fieldLink RX4 26 "MarkdownPlannerModel" "step" "[I", .fieldLink RX4 29 "MarkdownPlannerModel" "last" "[I", .fieldLink RX4 32 "MarkdownPlannerModel" "sold" "[I", .fieldLink RX4 35 "MarkdownPlannerModel" "worth" "[I"] ++ wsX40)
def wsX4_thrown : List Cond := .code yX4_thrown cX4_thrown 1 (some .int) :: ([.fieldLink RX4 38 "MarkdownPlannerModel" "thrown" "I"] ++ wsX40)
def wsX4_in : List Cond := .code yX4_in cX4_in 3 (some .boolean) :: ([])
def wsX4_asked : List Cond := .code yX4_asked cX4_asked 2 (some .boolean) :: ([.fieldLink RX4 38 "MarkdownPlannerModel" "thrown" "I"] ++ wsX40)
def wsX4_asked_ : List Cond := .code yX4_asked_ cX4_asked_ 3 (some .boolean) :: ([.fieldLink RX4 38 "MarkdownPlannerModel" "thrown" "I"] ++ wsX40)
def wsX4_told : List Cond := .code yX4_told cX4_told 2 (some .int) :: ([.fieldLink RX4 38 "MarkdownPlannerModel" "thrown" "I"] ++ wsX40)
def wsX4_isStore : List Cond := .code yX4_isStore cX4_isStore 1 (some .boolean) :: ([.methodLink RX4 41 yX4_in, .static yX4_in, .initialized RX4, .code yX4_in cX4_in 3 (some .boolean)])
def wsX4_isSize : List Cond := .code yX4_isSize cX4_isSize 1 (some .boolean) :: ([.methodLink RX4 41 yX4_in, .static yX4_in, .initialized RX4, .code yX4_in cX4_in 3 (some .boolean)])
def wsX4_isStep : List Cond := .code yX4_isStep cX4_isStep 1 (some .boolean) :: ([.methodLink RX4 41 yX4_in, .static yX4_in, .initialized RX4, .code yX4_in cX4_in 3 (some .boolean)])
def wsX4_whole : List Cond := .code yX4_whole cX4_whole 2 (some .int) :: ([.fieldLink RX4 23 "MarkdownPlannerModel" "stock" "[I"] ++ wsX40)
def wsX4_begin : List Cond := .code yX4_begin cX4_begin 4 (some .int) :: ([.fieldLink RX4 49 "MarkdownPlannerModel" "week" "I", .fieldLink RX4 7 "MarkdownPlannerModel" "weeks" "I", .fieldLink RX4 52 "MarkdownPlannerModel" "taken" "I", .fieldLink RX4 26 "MarkdownPlannerModel" "step" "[I", .fieldLink RX4 29 "MarkdownPlannerModel" "last" "[I", .fieldLink RX4 32 "MarkdownPlannerModel" "sold" "[I", .methodLink RX4 41 yX4_in, .static yX4_in, .initialized RX4, .code yX4_in cX4_in 3 (some .boolean), .methodLink RX4 45 yX4_asked, .instanceMethod yX4_asked, .selects RX4 yX4_asked yX4_asked, .code yX4_asked cX4_asked 2 (some .boolean), .fieldLink RX4 38 "MarkdownPlannerModel" "thrown" "I"] ++ wsX40)
def wsX4_setPrice : List Cond := .code yX4_setPrice cX4_setPrice 6 (some .int) :: ([.fieldLink RX4 13 "MarkdownPlannerModel" "price" "[I", .methodLink RX4 55 yX4_isStep, .static yX4_isStep, .initialized RX4, .code yX4_isStep cX4_isStep 1 (some .boolean), .methodLink RX4 41 yX4_in, .static yX4_in, .code yX4_in cX4_in 3 (some .boolean), .methodLink RX4 59 yX4_asked_, .instanceMethod yX4_asked_, .selects RX4 yX4_asked_ yX4_asked_, .code yX4_asked_ cX4_asked_ 3 (some .boolean), .fieldLink RX4 38 "MarkdownPlannerModel" "thrown" "I"] ++ wsX40)
def wsX4_setDemand : List Cond := .code yX4_setDemand cX4_setDemand 5 (some .int) :: ([.fieldLink RX4 17 "MarkdownPlannerModel" "demand" "[I", .methodLink RX4 62 yX4_isStore, .static yX4_isStore, .initialized RX4, .code yX4_isStore cX4_isStore 1 (some .boolean), .methodLink RX4 41 yX4_in, .static yX4_in, .code yX4_in cX4_in 3 (some .boolean), .methodLink RX4 55 yX4_isStep, .static yX4_isStep, .code yX4_isStep cX4_isStep 1 (some .boolean), .methodLink RX4 45 yX4_asked, .instanceMethod yX4_asked, .selects RX4 yX4_asked yX4_asked, .code yX4_asked cX4_asked 2 (some .boolean), .fieldLink RX4 38 "MarkdownPlannerModel" "thrown" "I"] ++ wsX40)
def wsX4_setRules : List Cond := .code yX4_setRules cX4_setRules 4 none :: ([.fieldLink RX4 20 "MarkdownPlannerModel" "gap" "I", .fieldLink RX4 65 "MarkdownPlannerModel" "remnant" "I", .fieldLink RX4 68 "MarkdownPlannerModel" "moving" "I", .methodLink RX4 41 yX4_in, .static yX4_in, .initialized RX4, .code yX4_in cX4_in 3 (some .boolean), .methodLink RX4 45 yX4_asked, .instanceMethod yX4_asked, .selects RX4 yX4_asked yX4_asked, .code yX4_asked cX4_asked 2 (some .boolean), .fieldLink RX4 38 "MarkdownPlannerModel" "thrown" "I"] ++ wsX40)
def wsX4_put : List Cond := .code yX4_put cX4_put 5 (some .int) :: ([.fieldLink RX4 23 "MarkdownPlannerModel" "stock" "[I", .methodLink RX4 62 yX4_isStore, .static yX4_isStore, .initialized RX4, .code yX4_isStore cX4_isStore 1 (some .boolean), .methodLink RX4 41 yX4_in, .static yX4_in, .code yX4_in cX4_in 3 (some .boolean), .methodLink RX4 71 yX4_isSize, .static yX4_isSize, .code yX4_isSize cX4_isSize 1 (some .boolean), .methodLink RX4 74 yX4_whole, .instanceMethod yX4_whole, .selects RX4 yX4_whole yX4_whole, .code yX4_whole cX4_whole 2 (some .int), .methodLink RX4 59 yX4_asked_, .instanceMethod yX4_asked_, .selects RX4 yX4_asked_ yX4_asked_, .code yX4_asked_ cX4_asked_ 3 (some .boolean), .fieldLink RX4 38 "MarkdownPlannerModel" "thrown" "I"] ++ wsX40)
def wsX4_waits : List Cond := .code yX4_waits cX4_waits 3 (some .int) :: ([.fieldLink RX4 29 "MarkdownPlannerModel" "last" "[I", .fieldLink RX4 20 "MarkdownPlannerModel" "gap" "I", .fieldLink RX4 49 "MarkdownPlannerModel" "week" "I"] ++ wsX40)
def wsX4_markDown_r1 : List Cond := [Cond.fieldLink RX4 49 "MarkdownPlannerModel" "week" "I", Cond.fieldLink RX4 7 "MarkdownPlannerModel" "weeks" "I", Cond.fieldLink RX4 26 "MarkdownPlannerModel" "step" "[I", Cond.fieldLink RX4 29 "MarkdownPlannerModel" "last" "[I", Cond.fieldLink RX4 13 "MarkdownPlannerModel" "price" "[I", Cond.methodLink RX4 62 yX4_isStore, Cond.static yX4_isStore, Cond.initialized RX4, Cond.code yX4_isStore cX4_isStore 1 (some .boolean), Cond.methodLink RX4 41 yX4_in, Cond.static yX4_in, Cond.code yX4_in cX4_in 3 (some .boolean), Cond.methodLink RX4 55 yX4_isStep, Cond.static yX4_isStep, Cond.code yX4_isStep cX4_isStep 1 (some .boolean), Cond.methodLink RX4 78 yX4_waits, Cond.instanceMethod yX4_waits, Cond.selects RX4 yX4_waits yX4_waits, Cond.code yX4_waits cX4_waits 3 (some .int), Cond.fieldLink RX4 20 "MarkdownPlannerModel" "gap" "I", Cond.methodLink RX4 59 yX4_asked_, Cond.instanceMethod yX4_asked_, Cond.selects RX4 yX4_asked_ yX4_asked_, Cond.code yX4_asked_ cX4_asked_ 3 (some .boolean)]
def wsX4_markDown_r2 : List Cond := [Cond.fieldLink RX4 38 "MarkdownPlannerModel" "thrown" "I"]
def wsX4_markDown : List Cond := .code yX4_markDown cX4_markDown 4 (some .int) :: ((wsX4_markDown_r1 ++ wsX4_markDown_r2) ++ wsX40)
def wsX4_move : List Cond := .code yX4_move cX4_move 6 (some .int) :: ([.fieldLink RX4 49 "MarkdownPlannerModel" "week" "I", .fieldLink RX4 7 "MarkdownPlannerModel" "weeks" "I", .fieldLink RX4 23 "MarkdownPlannerModel" "stock" "[I", .fieldLink RX4 52 "MarkdownPlannerModel" "taken" "I", .fieldLink RX4 68 "MarkdownPlannerModel" "moving" "I", .methodLink RX4 62 yX4_isStore, .static yX4_isStore, .initialized RX4, .code yX4_isStore cX4_isStore 1 (some .boolean), .methodLink RX4 41 yX4_in, .static yX4_in, .code yX4_in cX4_in 3 (some .boolean), .methodLink RX4 71 yX4_isSize, .static yX4_isSize, .code yX4_isSize cX4_isSize 1 (some .boolean), .methodLink RX4 74 yX4_whole, .instanceMethod yX4_whole, .selects RX4 yX4_whole yX4_whole, .code yX4_whole cX4_whole 2 (some .int), .methodLink RX4 59 yX4_asked_, .instanceMethod yX4_asked_, .selects RX4 yX4_asked_ yX4_asked_, .code yX4_asked_ cX4_asked_ 3 (some .boolean), .fieldLink RX4 38 "MarkdownPlannerModel" "thrown" "I"] ++ wsX40)
def wsX4_sells : List Cond := .code yX4_sells cX4_sells 5 (some .int) :: ([.fieldLink RX4 23 "MarkdownPlannerModel" "stock" "[I", .fieldLink RX4 17 "MarkdownPlannerModel" "demand" "[I", .methodLink RX4 74 yX4_whole, .instanceMethod yX4_whole, .selects RX4 yX4_whole yX4_whole, .initialized RX4, .code yX4_whole cX4_whole 2 (some .int)] ++ wsX40)
def wsX4_run : List Cond := .code yX4_run cX4_run 6 (some .int) :: ([.fieldLink RX4 49 "MarkdownPlannerModel" "week" "I", .fieldLink RX4 7 "MarkdownPlannerModel" "weeks" "I", .fieldLink RX4 26 "MarkdownPlannerModel" "step" "[I", .fieldLink RX4 23 "MarkdownPlannerModel" "stock" "[I", .fieldLink RX4 32 "MarkdownPlannerModel" "sold" "[I", .fieldLink RX4 13 "MarkdownPlannerModel" "price" "[I", .fieldLink RX4 52 "MarkdownPlannerModel" "taken" "I", .methodLink RX4 45 yX4_asked, .instanceMethod yX4_asked, .selects RX4 yX4_asked yX4_asked, .initialized RX4, .code yX4_asked cX4_asked 2 (some .boolean), .fieldLink RX4 38 "MarkdownPlannerModel" "thrown" "I", .methodLink RX4 81 yX4_sells, .instanceMethod yX4_sells, .selects RX4 yX4_sells yX4_sells, .code yX4_sells cX4_sells 5 (some .int), .fieldLink RX4 17 "MarkdownPlannerModel" "demand" "[I", .methodLink RX4 74 yX4_whole, .instanceMethod yX4_whole, .selects RX4 yX4_whole yX4_whole, .code yX4_whole cX4_whole 2 (some .int)] ++ wsX40)
def wsX4_week : List Cond := .code yX4_week cX4_week 1 (some .int) :: ([.fieldLink RX4 49 "MarkdownPlannerModel" "week" "I", .methodLink RX4 85 yX4_told, .instanceMethod yX4_told, .selects RX4 yX4_told yX4_told, .initialized RX4, .code yX4_told cX4_told 2 (some .int), .fieldLink RX4 38 "MarkdownPlannerModel" "thrown" "I"] ++ wsX40)
def wsX4_stock : List Cond := .code yX4_stock cX4_stock 3 (some .int) :: ([.fieldLink RX4 23 "MarkdownPlannerModel" "stock" "[I", .methodLink RX4 62 yX4_isStore, .static yX4_isStore, .initialized RX4, .code yX4_isStore cX4_isStore 1 (some .boolean), .methodLink RX4 41 yX4_in, .static yX4_in, .code yX4_in cX4_in 3 (some .boolean), .methodLink RX4 71 yX4_isSize, .static yX4_isSize, .code yX4_isSize cX4_isSize 1 (some .boolean), .methodLink RX4 45 yX4_asked, .instanceMethod yX4_asked, .selects RX4 yX4_asked yX4_asked, .code yX4_asked cX4_asked 2 (some .boolean), .fieldLink RX4 38 "MarkdownPlannerModel" "thrown" "I"] ++ wsX40)
def wsX4_step : List Cond := .code yX4_step cX4_step 2 (some .int) :: ([.fieldLink RX4 26 "MarkdownPlannerModel" "step" "[I", .methodLink RX4 62 yX4_isStore, .static yX4_isStore, .initialized RX4, .code yX4_isStore cX4_isStore 1 (some .boolean), .methodLink RX4 41 yX4_in, .static yX4_in, .code yX4_in cX4_in 3 (some .boolean), .methodLink RX4 45 yX4_asked, .instanceMethod yX4_asked, .selects RX4 yX4_asked yX4_asked, .code yX4_asked cX4_asked 2 (some .boolean), .fieldLink RX4 38 "MarkdownPlannerModel" "thrown" "I"] ++ wsX40)
def wsX4_weeksToWait : List Cond := .code yX4_weeksToWait cX4_weeksToWait 2 (some .int) :: ([.methodLink RX4 62 yX4_isStore, .static yX4_isStore, .initialized RX4, .code yX4_isStore cX4_isStore 1 (some .boolean), .methodLink RX4 41 yX4_in, .static yX4_in, .code yX4_in cX4_in 3 (some .boolean), .methodLink RX4 45 yX4_asked, .instanceMethod yX4_asked, .selects RX4 yX4_asked yX4_asked, .code yX4_asked cX4_asked 2 (some .boolean), .fieldLink RX4 38 "MarkdownPlannerModel" "thrown" "I", .methodLink RX4 78 yX4_waits, .instanceMethod yX4_waits, .selects RX4 yX4_waits yX4_waits, .code yX4_waits cX4_waits 3 (some .int), .fieldLink RX4 29 "MarkdownPlannerModel" "last" "[I", .fieldLink RX4 20 "MarkdownPlannerModel" "gap" "I", .fieldLink RX4 49 "MarkdownPlannerModel" "week" "I"] ++ wsX40)
def wsX4_sold : List Cond := .code yX4_sold cX4_sold 2 (some .int) :: ([.fieldLink RX4 32 "MarkdownPlannerModel" "sold" "[I", .methodLink RX4 62 yX4_isStore, .static yX4_isStore, .initialized RX4, .code yX4_isStore cX4_isStore 1 (some .boolean), .methodLink RX4 41 yX4_in, .static yX4_in, .code yX4_in cX4_in 3 (some .boolean), .methodLink RX4 45 yX4_asked, .instanceMethod yX4_asked, .selects RX4 yX4_asked yX4_asked, .code yX4_asked cX4_asked 2 (some .boolean), .fieldLink RX4 38 "MarkdownPlannerModel" "thrown" "I"] ++ wsX40)
def wsX4_taken : List Cond := .code yX4_taken cX4_taken 1 (some .int) :: ([.fieldLink RX4 52 "MarkdownPlannerModel" "taken" "I", .methodLink RX4 85 yX4_told, .instanceMethod yX4_told, .selects RX4 yX4_told yX4_told, .initialized RX4, .code yX4_told cX4_told 2 (some .int), .fieldLink RX4 38 "MarkdownPlannerModel" "thrown" "I"] ++ wsX40)
def wsX4_wouldSell_r1 : List Cond := [Cond.methodLink RX4 62 yX4_isStore, Cond.static yX4_isStore, Cond.initialized RX4, Cond.code yX4_isStore cX4_isStore 1 (some .boolean), Cond.methodLink RX4 41 yX4_in, Cond.static yX4_in, Cond.code yX4_in cX4_in 3 (some .boolean), Cond.methodLink RX4 55 yX4_isStep, Cond.static yX4_isStep, Cond.code yX4_isStep cX4_isStep 1 (some .boolean), Cond.methodLink RX4 45 yX4_asked, Cond.instanceMethod yX4_asked, Cond.selects RX4 yX4_asked yX4_asked, Cond.code yX4_asked cX4_asked 2 (some .boolean), Cond.fieldLink RX4 38 "MarkdownPlannerModel" "thrown" "I", Cond.methodLink RX4 81 yX4_sells, Cond.instanceMethod yX4_sells, Cond.selects RX4 yX4_sells yX4_sells, Cond.code yX4_sells cX4_sells 5 (some .int), Cond.fieldLink RX4 23 "MarkdownPlannerModel" "stock" "[I", Cond.fieldLink RX4 17 "MarkdownPlannerModel" "demand" "[I", Cond.methodLink RX4 74 yX4_whole, Cond.instanceMethod yX4_whole, Cond.selects RX4 yX4_whole yX4_whole]
def wsX4_wouldSell_r2 : List Cond := [Cond.code yX4_whole cX4_whole 2 (some .int)]
def wsX4_wouldSell : List Cond := .code yX4_wouldSell cX4_wouldSell 3 (some .int) :: ((wsX4_wouldSell_r1 ++ wsX4_wouldSell_r2) ++ wsX40)
def wsX4_at : List Cond := .code yX4_at cX4_at 4 (some .int) :: ([])
def wsX4_worthOf : List Cond := .code yX4_worthOf cX4_worthOf 10 (some .int) :: ([.fieldLink RX4 17 "MarkdownPlannerModel" "demand" "[I", .fieldLink RX4 20 "MarkdownPlannerModel" "gap" "I", .fieldLink RX4 35 "MarkdownPlannerModel" "worth" "[I", .fieldLink RX4 13 "MarkdownPlannerModel" "price" "[I", .methodLink RX4 88 yX4_at, .static yX4_at, .initialized RX4, .code yX4_at cX4_at 4 (some .int)] ++ wsX40)
def wsX4_finds_r1 : List Cond := [Cond.fieldLink RX4 35 "MarkdownPlannerModel" "worth" "[I", Cond.fieldLink RX4 7 "MarkdownPlannerModel" "weeks" "I", Cond.fieldLink RX4 65 "MarkdownPlannerModel" "remnant" "I", Cond.fieldLink RX4 49 "MarkdownPlannerModel" "week" "I", Cond.fieldLink RX4 26 "MarkdownPlannerModel" "step" "[I", Cond.methodLink RX4 92 yX4_worthOf, Cond.instanceMethod yX4_worthOf, Cond.selects RX4 yX4_worthOf yX4_worthOf, Cond.initialized RX4, Cond.code yX4_worthOf cX4_worthOf 10 (some .int), Cond.fieldLink RX4 17 "MarkdownPlannerModel" "demand" "[I", Cond.fieldLink RX4 20 "MarkdownPlannerModel" "gap" "I", Cond.fieldLink RX4 13 "MarkdownPlannerModel" "price" "[I", Cond.methodLink RX4 88 yX4_at, Cond.static yX4_at, Cond.code yX4_at cX4_at 4 (some .int), Cond.methodLink RX4 78 yX4_waits, Cond.instanceMethod yX4_waits, Cond.selects RX4 yX4_waits yX4_waits, Cond.code yX4_waits cX4_waits 3 (some .int), Cond.fieldLink RX4 29 "MarkdownPlannerModel" "last" "[I", Cond.methodLink RX4 74 yX4_whole, Cond.instanceMethod yX4_whole, Cond.selects RX4 yX4_whole yX4_whole]
def wsX4_finds_r2 : List Cond := [Cond.code yX4_whole cX4_whole 2 (some .int), Cond.fieldLink RX4 23 "MarkdownPlannerModel" "stock" "[I"]
def wsX4_finds : List Cond := .code yX4_finds cX4_finds 9 (some .int) :: ((wsX4_finds_r1 ++ wsX4_finds_r2) ++ wsX40)
def wsX4_best_r1 : List Cond := [Cond.methodLink RX4 62 yX4_isStore, Cond.static yX4_isStore, Cond.initialized RX4, Cond.code yX4_isStore cX4_isStore 1 (some .boolean), Cond.methodLink RX4 41 yX4_in, Cond.static yX4_in, Cond.code yX4_in cX4_in 3 (some .boolean), Cond.methodLink RX4 45 yX4_asked, Cond.instanceMethod yX4_asked, Cond.selects RX4 yX4_asked yX4_asked, Cond.code yX4_asked cX4_asked 2 (some .boolean), Cond.fieldLink RX4 38 "MarkdownPlannerModel" "thrown" "I", Cond.methodLink RX4 96 yX4_finds, Cond.instanceMethod yX4_finds, Cond.selects RX4 yX4_finds yX4_finds, Cond.code yX4_finds cX4_finds 9 (some .int), Cond.fieldLink RX4 35 "MarkdownPlannerModel" "worth" "[I", Cond.fieldLink RX4 7 "MarkdownPlannerModel" "weeks" "I", Cond.fieldLink RX4 65 "MarkdownPlannerModel" "remnant" "I", Cond.fieldLink RX4 49 "MarkdownPlannerModel" "week" "I", Cond.fieldLink RX4 26 "MarkdownPlannerModel" "step" "[I", Cond.methodLink RX4 92 yX4_worthOf, Cond.instanceMethod yX4_worthOf, Cond.selects RX4 yX4_worthOf yX4_worthOf]
def wsX4_best_r2 : List Cond := [Cond.code yX4_worthOf cX4_worthOf 10 (some .int), Cond.fieldLink RX4 17 "MarkdownPlannerModel" "demand" "[I", Cond.fieldLink RX4 20 "MarkdownPlannerModel" "gap" "I", Cond.fieldLink RX4 13 "MarkdownPlannerModel" "price" "[I", Cond.methodLink RX4 88 yX4_at, Cond.static yX4_at, Cond.code yX4_at cX4_at 4 (some .int), Cond.methodLink RX4 78 yX4_waits, Cond.instanceMethod yX4_waits, Cond.selects RX4 yX4_waits yX4_waits, Cond.code yX4_waits cX4_waits 3 (some .int), Cond.fieldLink RX4 29 "MarkdownPlannerModel" "last" "[I", Cond.methodLink RX4 74 yX4_whole, Cond.instanceMethod yX4_whole, Cond.selects RX4 yX4_whole yX4_whole, Cond.code yX4_whole cX4_whole 2 (some .int), Cond.fieldLink RX4 23 "MarkdownPlannerModel" "stock" "[I"]
def wsX4_best : List Cond := .code yX4_best cX4_best 2 (some .int) :: ((wsX4_best_r1 ++ wsX4_best_r2) ++ wsX40)
def wsX4_bestByAll_r1 : List Cond := [Cond.fieldLink RX4 7 "MarkdownPlannerModel" "weeks" "I", Cond.fieldLink RX4 49 "MarkdownPlannerModel" "week" "I", Cond.methodLink RX4 62 yX4_isStore, Cond.static yX4_isStore, Cond.initialized RX4, Cond.code yX4_isStore cX4_isStore 1 (some .boolean), Cond.methodLink RX4 41 yX4_in, Cond.static yX4_in, Cond.code yX4_in cX4_in 3 (some .boolean), Cond.methodLink RX4 59 yX4_asked_, Cond.instanceMethod yX4_asked_, Cond.selects RX4 yX4_asked_ yX4_asked_, Cond.code yX4_asked_ cX4_asked_ 3 (some .boolean), Cond.fieldLink RX4 38 "MarkdownPlannerModel" "thrown" "I", Cond.methodLink RX4 96 yX4_finds, Cond.instanceMethod yX4_finds, Cond.selects RX4 yX4_finds yX4_finds, Cond.code yX4_finds cX4_finds 9 (some .int), Cond.fieldLink RX4 35 "MarkdownPlannerModel" "worth" "[I", Cond.fieldLink RX4 65 "MarkdownPlannerModel" "remnant" "I", Cond.fieldLink RX4 26 "MarkdownPlannerModel" "step" "[I", Cond.methodLink RX4 92 yX4_worthOf, Cond.instanceMethod yX4_worthOf, Cond.selects RX4 yX4_worthOf yX4_worthOf]
def wsX4_bestByAll_r2 : List Cond := [Cond.code yX4_worthOf cX4_worthOf 10 (some .int), Cond.fieldLink RX4 17 "MarkdownPlannerModel" "demand" "[I", Cond.fieldLink RX4 20 "MarkdownPlannerModel" "gap" "I", Cond.fieldLink RX4 13 "MarkdownPlannerModel" "price" "[I", Cond.methodLink RX4 88 yX4_at, Cond.static yX4_at, Cond.code yX4_at cX4_at 4 (some .int), Cond.methodLink RX4 78 yX4_waits, Cond.instanceMethod yX4_waits, Cond.selects RX4 yX4_waits yX4_waits, Cond.code yX4_waits cX4_waits 3 (some .int), Cond.fieldLink RX4 29 "MarkdownPlannerModel" "last" "[I", Cond.methodLink RX4 74 yX4_whole, Cond.instanceMethod yX4_whole, Cond.selects RX4 yX4_whole yX4_whole, Cond.code yX4_whole cX4_whole 2 (some .int), Cond.fieldLink RX4 23 "MarkdownPlannerModel" "stock" "[I"]
def wsX4_bestByAll : List Cond := .code yX4_bestByAll cX4_bestByAll 3 (some .int) :: ((wsX4_bestByAll_r1 ++ wsX4_bestByAll_r2) ++ wsX40)
def wsX4_planned_r1 : List Cond := [Cond.fieldLink RX4 49 "MarkdownPlannerModel" "week" "I", Cond.fieldLink RX4 7 "MarkdownPlannerModel" "weeks" "I", Cond.fieldLink RX4 26 "MarkdownPlannerModel" "step" "[I", Cond.fieldLink RX4 17 "MarkdownPlannerModel" "demand" "[I", Cond.fieldLink RX4 13 "MarkdownPlannerModel" "price" "[I", Cond.fieldLink RX4 20 "MarkdownPlannerModel" "gap" "I", Cond.methodLink RX4 62 yX4_isStore, Cond.static yX4_isStore, Cond.initialized RX4, Cond.code yX4_isStore cX4_isStore 1 (some .boolean), Cond.methodLink RX4 41 yX4_in, Cond.static yX4_in, Cond.code yX4_in cX4_in 3 (some .boolean), Cond.methodLink RX4 45 yX4_asked, Cond.instanceMethod yX4_asked, Cond.selects RX4 yX4_asked yX4_asked, Cond.code yX4_asked cX4_asked 2 (some .boolean), Cond.fieldLink RX4 38 "MarkdownPlannerModel" "thrown" "I", Cond.methodLink RX4 96 yX4_finds, Cond.instanceMethod yX4_finds, Cond.selects RX4 yX4_finds yX4_finds, Cond.code yX4_finds cX4_finds 9 (some .int), Cond.fieldLink RX4 35 "MarkdownPlannerModel" "worth" "[I", Cond.fieldLink RX4 65 "MarkdownPlannerModel" "remnant" "I"]
def wsX4_planned_r2 : List Cond := [Cond.methodLink RX4 92 yX4_worthOf, Cond.instanceMethod yX4_worthOf, Cond.selects RX4 yX4_worthOf yX4_worthOf, Cond.code yX4_worthOf cX4_worthOf 10 (some .int), Cond.methodLink RX4 88 yX4_at, Cond.static yX4_at, Cond.code yX4_at cX4_at 4 (some .int), Cond.methodLink RX4 78 yX4_waits, Cond.instanceMethod yX4_waits, Cond.selects RX4 yX4_waits yX4_waits, Cond.code yX4_waits cX4_waits 3 (some .int), Cond.fieldLink RX4 29 "MarkdownPlannerModel" "last" "[I", Cond.methodLink RX4 74 yX4_whole, Cond.instanceMethod yX4_whole, Cond.selects RX4 yX4_whole yX4_whole, Cond.code yX4_whole cX4_whole 2 (some .int), Cond.fieldLink RX4 23 "MarkdownPlannerModel" "stock" "[I"]
def wsX4_planned : List Cond := .code yX4_planned cX4_planned 10 (some .int) :: ((wsX4_planned_r1 ++ wsX4_planned_r2) ++ wsX40)
def wsX4_bestLeaving_r1 : List Cond := [Cond.methodLink RX4 62 yX4_isStore, Cond.static yX4_isStore, Cond.initialized RX4, Cond.code yX4_isStore cX4_isStore 1 (some .boolean), Cond.methodLink RX4 41 yX4_in, Cond.static yX4_in, Cond.code yX4_in cX4_in 3 (some .boolean), Cond.methodLink RX4 45 yX4_asked, Cond.instanceMethod yX4_asked, Cond.selects RX4 yX4_asked yX4_asked, Cond.code yX4_asked cX4_asked 2 (some .boolean), Cond.fieldLink RX4 38 "MarkdownPlannerModel" "thrown" "I", Cond.methodLink RX4 96 yX4_finds, Cond.instanceMethod yX4_finds, Cond.selects RX4 yX4_finds yX4_finds, Cond.code yX4_finds cX4_finds 9 (some .int), Cond.fieldLink RX4 35 "MarkdownPlannerModel" "worth" "[I", Cond.fieldLink RX4 7 "MarkdownPlannerModel" "weeks" "I", Cond.fieldLink RX4 65 "MarkdownPlannerModel" "remnant" "I", Cond.fieldLink RX4 49 "MarkdownPlannerModel" "week" "I", Cond.fieldLink RX4 26 "MarkdownPlannerModel" "step" "[I", Cond.methodLink RX4 92 yX4_worthOf, Cond.instanceMethod yX4_worthOf, Cond.selects RX4 yX4_worthOf yX4_worthOf]
def wsX4_bestLeaving_r2 : List Cond := [Cond.code yX4_worthOf cX4_worthOf 10 (some .int), Cond.fieldLink RX4 17 "MarkdownPlannerModel" "demand" "[I", Cond.fieldLink RX4 20 "MarkdownPlannerModel" "gap" "I", Cond.fieldLink RX4 13 "MarkdownPlannerModel" "price" "[I", Cond.methodLink RX4 88 yX4_at, Cond.static yX4_at, Cond.code yX4_at cX4_at 4 (some .int), Cond.methodLink RX4 78 yX4_waits, Cond.instanceMethod yX4_waits, Cond.selects RX4 yX4_waits yX4_waits, Cond.code yX4_waits cX4_waits 3 (some .int), Cond.fieldLink RX4 29 "MarkdownPlannerModel" "last" "[I", Cond.methodLink RX4 74 yX4_whole, Cond.instanceMethod yX4_whole, Cond.selects RX4 yX4_whole yX4_whole, Cond.code yX4_whole cX4_whole 2 (some .int), Cond.fieldLink RX4 23 "MarkdownPlannerModel" "stock" "[I"]
def wsX4_bestLeaving : List Cond := .code yX4_bestLeaving cX4_bestLeaving 3 (some .int) :: ((wsX4_bestLeaving_r1 ++ wsX4_bestLeaving_r2) ++ wsX40)
def wsJ9_max_7cf53 : List Cond := .code yJ9_max_7cf53 cJ9_max_7cf53 2 (some .int) :: ([])
def wsJ9_min_7cf53 : List Cond := .code yJ9_min_7cf53 cJ9_min_7cf53 2 (some .int) :: ([])
def wsL_begin_r1 : List Cond := [Cond.classLink RL 13 "java/lang/IllegalArgumentException", Cond.methodLink RL 7 yX3_begin, Cond.instanceMethod yX3_begin, Cond.selects RX3 yX3_begin yX3_begin, Cond.initialized RX3, Cond.code yX3_begin cX3_begin 7 (some .int), Cond.fieldLink RX3 12 "MarkdownPlanner" "season" "LMarkdownPlanner$Season;", Cond.fieldLink RX3 18 "MarkdownPlanner" "stores" "[LMarkdownPlanner$Store;", Cond.methodLink RX3 30 yX3_requireWithin, Cond.static yX3_requireWithin, Cond.code yX3_requireWithin cX3_requireWithin 3 none, Cond.classLink RX3 105 "java/lang/IllegalArgumentException", Cond.initialized "java/lang/IllegalArgumentException", Cond.instanceMethod yX1_startAnew, Cond.initialized RX1, Cond.selects RX1 yX1_startAnew yX1_startAnew, Cond.code yX1_startAnew cX1_startAnew 2 none, Cond.fieldLink RX1 15 "MarkdownPlanner$Season" "weeks" "I", Cond.fieldLink RX1 22 "MarkdownPlanner$Season" "week" "I", Cond.fieldLink RX1 25 "MarkdownPlanner$Season" "taken" "I", Cond.instanceMethod yX2_startAnew, Cond.initialized RX2, Cond.selects RX2 yX2_startAnew yX2_startAnew, Cond.code yX2_startAnew cX2_startAnew 1 none]
def wsL_begin_r2 : List Cond := [Cond.fieldLink RX2 22 "MarkdownPlanner$Store" "step" "I", Cond.fieldLink RX2 18 "MarkdownPlanner$Store" "markedDownIn" "I", Cond.fieldLink RX2 25 "MarkdownPlanner$Store" "piecesSold" "I"]
def wsL_begin : List Cond := .codeWith yL_begin cL_begin 4 (some .int) [(0, 9, 12, 13)] :: ((wsL_begin_r1 ++ wsL_begin_r2) ++ wsX30 ++ wsX10 ++ wsX20 ++ (vx_atS RX3 109 "java/lang/IllegalArgumentException" ["java/lang/RuntimeException", "java/lang/Exception"]).filter goodWord)
def wsL_setPrice : List Cond := .codeWith yL_setPrice cL_setPrice 5 (some .int) [(0, 10, 13, 13), (0, 10, 17, 19)] :: ([.classLink RL 13 "java/lang/IllegalArgumentException", .classLink RL 19 "java/lang/IllegalStateException", .methodLink RL 15 yX3_setPrice, .instanceMethod yX3_setPrice, .selects RX3 yX3_setPrice yX3_setPrice, .initialized RX3, .code yX3_setPrice cX3_setPrice 4 (some .int), .classLink RX3 51 "java/lang/IllegalStateException", .initialized "java/lang/IllegalStateException", .fieldLink RX3 12 "MarkdownPlanner" "season" "LMarkdownPlanner$Season;", .methodLink RX3 44 yX3_requireStep, .static yX3_requireStep, .code yX3_requireStep cX3_requireStep 1 none, .methodLink RX3 30 yX3_requireWithin, .static yX3_requireWithin, .code yX3_requireWithin cX3_requireWithin 3 none, .classLink RX3 105 "java/lang/IllegalArgumentException", .initialized "java/lang/IllegalArgumentException", .instanceMethod yX1_keepsLadderDown, .initialized RX1, .selects RX1 yX1_keepsLadderDown yX1_keepsLadderDown, .code yX1_keepsLadderDown cX1_keepsLadderDown 5 (some .boolean), .fieldLink RX1 9 "MarkdownPlanner$Season" "prices" "[I"] ++ wsX30 ++ wsX10 ++ (vx_atS RX3 55 "java/lang/IllegalStateException" ["java/lang/RuntimeException", "java/lang/Exception"]).filter goodWord ++ (vx_atS RX3 109 "java/lang/IllegalArgumentException" ["java/lang/RuntimeException", "java/lang/Exception"]).filter goodWord)
def wsL_setDemand : List Cond := .codeWith yL_setDemand cL_setDemand 6 (some .int) [(0, 12, 15, 13)] :: ([.classLink RL 13 "java/lang/IllegalArgumentException", .methodLink RL 21 yX3_setDemand, .instanceMethod yX3_setDemand, .selects RX3 yX3_setDemand yX3_setDemand, .initialized RX3, .code yX3_setDemand cX3_setDemand 6 (some .int), .methodLink RX3 62 yX3_storeOf, .instanceMethod yX3_storeOf, .selects RX3 yX3_storeOf yX3_storeOf, .code yX3_storeOf cX3_storeOf 2 (some (.object "MarkdownPlanner$Store")), .fieldLink RX3 18 "MarkdownPlanner" "stores" "[LMarkdownPlanner$Store;", .methodLink RX3 30 yX3_requireWithin, .static yX3_requireWithin, .code yX3_requireWithin cX3_requireWithin 3 none, .classLink RX3 105 "java/lang/IllegalArgumentException", .initialized "java/lang/IllegalArgumentException", .methodLink RX3 44 yX3_requireStep, .static yX3_requireStep, .code yX3_requireStep cX3_requireStep 1 none] ++ wsX20 ++ wsX30 ++ (vx_atS RX3 109 "java/lang/IllegalArgumentException" ["java/lang/RuntimeException", "java/lang/Exception"]).filter goodWord)
def wsL_setRules : List Cond := .codeWith yL_setRules cL_setRules 5 (some .int) [(0, 7, 10, 13)] :: ([.classLink RL 13 "java/lang/IllegalArgumentException", .methodLink RL 25 yX3_setRules, .instanceMethod yX3_setRules, .selects RX3 yX3_setRules yX3_setRules, .initialized RX3, .code yX3_setRules cX3_setRules 4 none, .fieldLink RX3 12 "MarkdownPlanner" "season" "LMarkdownPlanner$Season;", .methodLink RX3 30 yX3_requireWithin, .static yX3_requireWithin, .code yX3_requireWithin cX3_requireWithin 3 none, .classLink RX3 105 "java/lang/IllegalArgumentException", .initialized "java/lang/IllegalArgumentException"] ++ wsX30 ++ wsX10 ++ (vx_atS RX3 109 "java/lang/IllegalArgumentException" ["java/lang/RuntimeException", "java/lang/Exception"]).filter goodWord)
def wsL_put_r1 : List Cond := [Cond.classLink RL 13 "java/lang/IllegalArgumentException", Cond.classLink RL 19 "java/lang/IllegalStateException", Cond.methodLink RL 29 yX3_put, Cond.instanceMethod yX3_put, Cond.selects RX3 yX3_put yX3_put, Cond.initialized RX3, Cond.code yX3_put cX3_put 5 (some .int), Cond.methodLink RX3 62 yX3_storeOf, Cond.instanceMethod yX3_storeOf, Cond.selects RX3 yX3_storeOf yX3_storeOf, Cond.code yX3_storeOf cX3_storeOf 2 (some (.object "MarkdownPlanner$Store")), Cond.fieldLink RX3 18 "MarkdownPlanner" "stores" "[LMarkdownPlanner$Store;", Cond.methodLink RX3 30 yX3_requireWithin, Cond.static yX3_requireWithin, Cond.code yX3_requireWithin cX3_requireWithin 3 none, Cond.classLink RX3 105 "java/lang/IllegalArgumentException", Cond.initialized "java/lang/IllegalArgumentException", Cond.methodLink RX3 78 yX3_requireSize, Cond.static yX3_requireSize, Cond.code yX3_requireSize cX3_requireSize 1 none, Cond.methodLink RX3 81 yX3_requireRoomFor, Cond.static yX3_requireRoomFor, Cond.code yX3_requireRoomFor cX3_requireRoomFor 2 none, Cond.classLink RX3 51 "java/lang/IllegalStateException"]
def wsL_put_r2 : List Cond := [Cond.initialized "java/lang/IllegalStateException", Cond.instanceMethod yX2_wholeStock, Cond.initialized RX2, Cond.selects RX2 yX2_wholeStock yX2_wholeStock, Cond.code yX2_wholeStock cX2_wholeStock 3 (some .int), Cond.fieldLink RX2 15 "MarkdownPlanner$Store" "pieces" "[I"]
def wsL_put : List Cond := .codeWith yL_put cL_put 6 (some .int) [(0, 12, 15, 13), (0, 12, 19, 19)] :: ((wsL_put_r1 ++ wsL_put_r2) ++ wsX20 ++ wsX30 ++ (vx_atS RX3 109 "java/lang/IllegalArgumentException" ["java/lang/RuntimeException", "java/lang/Exception"]).filter goodWord ++ (vx_atS RX3 55 "java/lang/IllegalStateException" ["java/lang/RuntimeException", "java/lang/Exception"]).filter goodWord)
def wsL_markDown_r1 : List Cond := [Cond.classLink RL 13 "java/lang/IllegalArgumentException", Cond.classLink RL 19 "java/lang/IllegalStateException", Cond.methodLink RL 32 yX3_markDown, Cond.instanceMethod yX3_markDown, Cond.selects RX3 yX3_markDown yX3_markDown, Cond.initialized RX3, Cond.code yX3_markDown cX3_markDown 4 (some .int), Cond.classLink RX3 51 "java/lang/IllegalStateException", Cond.initialized "java/lang/IllegalStateException", Cond.fieldLink RX3 12 "MarkdownPlanner" "season" "LMarkdownPlanner$Season;", Cond.methodLink RX3 62 yX3_storeOf, Cond.instanceMethod yX3_storeOf, Cond.selects RX3 yX3_storeOf yX3_storeOf, Cond.code yX3_storeOf cX3_storeOf 2 (some (.object "MarkdownPlanner$Store")), Cond.fieldLink RX3 18 "MarkdownPlanner" "stores" "[LMarkdownPlanner$Store;", Cond.methodLink RX3 30 yX3_requireWithin, Cond.static yX3_requireWithin, Cond.code yX3_requireWithin cX3_requireWithin 3 none, Cond.classLink RX3 105 "java/lang/IllegalArgumentException", Cond.initialized "java/lang/IllegalArgumentException", Cond.methodLink RX3 44 yX3_requireStep, Cond.static yX3_requireStep, Cond.code yX3_requireStep cX3_requireStep 1 none, Cond.methodLink RX3 88 yX3_requireSeasonOn]
def wsL_markDown_r2 : List Cond := [Cond.instanceMethod yX3_requireSeasonOn, Cond.selects RX3 yX3_requireSeasonOn yX3_requireSeasonOn, Cond.code yX3_requireSeasonOn cX3_requireSeasonOn 1 none, Cond.instanceMethod yX2_waitFrom, Cond.initialized RX2, Cond.selects RX2 yX2_waitFrom yX2_waitFrom, Cond.code yX2_waitFrom cX2_waitFrom 3 (some .int), Cond.fieldLink RX2 18 "MarkdownPlanner$Store" "markedDownIn" "I", Cond.methodLink RX2 28 Lib.Math.max.name, Cond.static Lib.Math.max.name, Cond.initialized "java/lang/Math", Cond.code Lib.Math.max.name Lib.Math.max.code 2 (some .int)]
def wsL_markDown : List Cond := .codeWith yL_markDown cL_markDown 5 (some .int) [(0, 10, 13, 13), (0, 10, 17, 19)] :: ((wsL_markDown_r1 ++ wsL_markDown_r2) ++ wsX20 ++ wsX30 ++ wsX10 ++ (vx_atS RX3 55 "java/lang/IllegalStateException" ["java/lang/RuntimeException", "java/lang/Exception"]).filter goodWord ++ (vx_atS RX3 109 "java/lang/IllegalArgumentException" ["java/lang/RuntimeException", "java/lang/Exception"]).filter goodWord)
def wsL_move_r1 : List Cond := [Cond.classLink RL 13 "java/lang/IllegalArgumentException", Cond.classLink RL 19 "java/lang/IllegalStateException", Cond.methodLink RL 35 yX3_move, Cond.instanceMethod yX3_move, Cond.selects RX3 yX3_move yX3_move, Cond.initialized RX3, Cond.code yX3_move cX3_move 8 (some .int), Cond.classLink RX3 105 "java/lang/IllegalArgumentException", Cond.initialized "java/lang/IllegalArgumentException", Cond.classLink RX3 51 "java/lang/IllegalStateException", Cond.initialized "java/lang/IllegalStateException", Cond.fieldLink RX3 12 "MarkdownPlanner" "season" "LMarkdownPlanner$Season;", Cond.methodLink RX3 62 yX3_storeOf, Cond.instanceMethod yX3_storeOf, Cond.selects RX3 yX3_storeOf yX3_storeOf, Cond.code yX3_storeOf cX3_storeOf 2 (some (.object "MarkdownPlanner$Store")), Cond.fieldLink RX3 18 "MarkdownPlanner" "stores" "[LMarkdownPlanner$Store;", Cond.methodLink RX3 30 yX3_requireWithin, Cond.static yX3_requireWithin, Cond.code yX3_requireWithin cX3_requireWithin 3 none, Cond.methodLink RX3 78 yX3_requireSize, Cond.static yX3_requireSize, Cond.code yX3_requireSize cX3_requireSize 1 none, Cond.methodLink RX3 88 yX3_requireSeasonOn]
def wsL_move_r2 : List Cond := [Cond.instanceMethod yX3_requireSeasonOn, Cond.selects RX3 yX3_requireSeasonOn yX3_requireSeasonOn, Cond.code yX3_requireSeasonOn cX3_requireSeasonOn 1 none, Cond.methodLink RX3 81 yX3_requireRoomFor, Cond.static yX3_requireRoomFor, Cond.code yX3_requireRoomFor cX3_requireRoomFor 2 none, Cond.instanceMethod yX2_wholeStock, Cond.initialized RX2, Cond.selects RX2 yX2_wholeStock yX2_wholeStock, Cond.code yX2_wholeStock cX2_wholeStock 3 (some .int), Cond.fieldLink RX2 15 "MarkdownPlanner$Store" "pieces" "[I"]
def wsL_move : List Cond := .codeWith yL_move cL_move 7 (some .int) [(0, 14, 17, 13), (0, 14, 21, 19)] :: ((wsL_move_r1 ++ wsL_move_r2) ++ wsX20 ++ wsX30 ++ wsX10 ++ (vx_atS RX3 109 "java/lang/IllegalArgumentException" ["java/lang/RuntimeException", "java/lang/Exception"]).filter goodWord ++ (vx_atS RX3 55 "java/lang/IllegalStateException" ["java/lang/RuntimeException", "java/lang/Exception"]).filter goodWord)
def wsL_run_r1 : List Cond := [Cond.classLink RL 19 "java/lang/IllegalStateException", Cond.methodLink RL 39 yX3_run, Cond.instanceMethod yX3_run, Cond.selects RX3 yX3_run yX3_run, Cond.initialized RX3, Cond.code yX3_run cX3_run 6 (some .int), Cond.fieldLink RX3 18 "MarkdownPlanner" "stores" "[LMarkdownPlanner$Store;", Cond.fieldLink RX3 12 "MarkdownPlanner" "season" "LMarkdownPlanner$Season;", Cond.methodLink RX3 88 yX3_requireSeasonOn, Cond.instanceMethod yX3_requireSeasonOn, Cond.selects RX3 yX3_requireSeasonOn yX3_requireSeasonOn, Cond.code yX3_requireSeasonOn cX3_requireSeasonOn 1 none, Cond.classLink RX3 51 "java/lang/IllegalStateException", Cond.initialized "java/lang/IllegalStateException", Cond.instanceMethod yX2_sellForAWeek, Cond.initialized RX2, Cond.selects RX2 yX2_sellForAWeek yX2_sellForAWeek, Cond.code yX2_sellForAWeek cX2_sellForAWeek 3 (some .int), Cond.fieldLink RX2 22 "MarkdownPlanner$Store" "step" "I", Cond.fieldLink RX2 15 "MarkdownPlanner$Store" "pieces" "[I", Cond.fieldLink RX2 25 "MarkdownPlanner$Store" "piecesSold" "I", Cond.methodLink RX2 44 yX2_salesAt, Cond.instanceMethod yX2_salesAt, Cond.selects RX2 yX2_salesAt yX2_salesAt]
def wsL_run_r2 : List Cond := [Cond.code yX2_salesAt cX2_salesAt 2 (some .int), Cond.fieldLink RX2 9 "MarkdownPlanner$Store" "demands" "[I", Cond.methodLink RX2 41 Lib.Math.min.name, Cond.static Lib.Math.min.name, Cond.initialized "java/lang/Math", Cond.code Lib.Math.min.name Lib.Math.min.code 2 (some .int), Cond.methodLink RX2 34 yX2_sizesInStock, Cond.instanceMethod yX2_sizesInStock, Cond.selects RX2 yX2_sizesInStock yX2_sizesInStock, Cond.code yX2_sizesInStock cX2_sizesInStock 3 (some .int), Cond.methodLink RX2 38 yX2_wholeStock, Cond.instanceMethod yX2_wholeStock, Cond.selects RX2 yX2_wholeStock yX2_wholeStock, Cond.code yX2_wholeStock cX2_wholeStock 3 (some .int), Cond.methodLink RX2 48 yX2_fullestSize, Cond.instanceMethod yX2_fullestSize, Cond.selects RX2 yX2_fullestSize yX2_fullestSize, Cond.code yX2_fullestSize cX2_fullestSize 3 (some .int)]
def wsL_run : List Cond := .codeWith yL_run cL_run 3 (some .int) [(0, 8, 11, 19)] :: ((wsL_run_r1 ++ wsL_run_r2) ++ wsX30 ++ wsX10 ++ wsX20 ++ (vx_atS RX3 55 "java/lang/IllegalStateException" ["java/lang/RuntimeException", "java/lang/Exception"]).filter goodWord)
def wsL_stock : List Cond := .codeWith yL_stock cL_stock 5 (some .int) [(0, 10, 13, 13)] :: ([.classLink RL 13 "java/lang/IllegalArgumentException", .methodLink RL 43 yX3_stock, .instanceMethod yX3_stock, .selects RX3 yX3_stock yX3_stock, .initialized RX3, .code yX3_stock cX3_stock 4 (some .int), .methodLink RX3 62 yX3_storeOf, .instanceMethod yX3_storeOf, .selects RX3 yX3_storeOf yX3_storeOf, .code yX3_storeOf cX3_storeOf 2 (some (.object "MarkdownPlanner$Store")), .fieldLink RX3 18 "MarkdownPlanner" "stores" "[LMarkdownPlanner$Store;", .methodLink RX3 30 yX3_requireWithin, .static yX3_requireWithin, .code yX3_requireWithin cX3_requireWithin 3 none, .classLink RX3 105 "java/lang/IllegalArgumentException", .initialized "java/lang/IllegalArgumentException", .methodLink RX3 78 yX3_requireSize, .static yX3_requireSize, .code yX3_requireSize cX3_requireSize 1 none] ++ wsX20 ++ wsX30 ++ (vx_atS RX3 109 "java/lang/IllegalArgumentException" ["java/lang/RuntimeException", "java/lang/Exception"]).filter goodWord)
def wsL_step : List Cond := .codeWith yL_step cL_step 4 (some .int) [(0, 9, 12, 13)] :: ([.classLink RL 13 "java/lang/IllegalArgumentException", .methodLink RL 46 yX3_step, .instanceMethod yX3_step, .selects RX3 yX3_step yX3_step, .initialized RX3, .code yX3_step cX3_step 2 (some .int), .methodLink RX3 62 yX3_storeOf, .instanceMethod yX3_storeOf, .selects RX3 yX3_storeOf yX3_storeOf, .code yX3_storeOf cX3_storeOf 2 (some (.object "MarkdownPlanner$Store")), .fieldLink RX3 18 "MarkdownPlanner" "stores" "[LMarkdownPlanner$Store;", .methodLink RX3 30 yX3_requireWithin, .static yX3_requireWithin, .code yX3_requireWithin cX3_requireWithin 3 none, .classLink RX3 105 "java/lang/IllegalArgumentException", .initialized "java/lang/IllegalArgumentException"] ++ wsX20 ++ wsX30 ++ (vx_atS RX3 109 "java/lang/IllegalArgumentException" ["java/lang/RuntimeException", "java/lang/Exception"]).filter goodWord)
def wsL_weeksToWait_r1 : List Cond := [Cond.classLink RL 13 "java/lang/IllegalArgumentException", Cond.methodLink RL 49 yX3_weeksToWait, Cond.instanceMethod yX3_weeksToWait, Cond.selects RX3 yX3_weeksToWait yX3_weeksToWait, Cond.initialized RX3, Cond.code yX3_weeksToWait cX3_weeksToWait 2 (some .int), Cond.fieldLink RX3 12 "MarkdownPlanner" "season" "LMarkdownPlanner$Season;", Cond.methodLink RX3 62 yX3_storeOf, Cond.instanceMethod yX3_storeOf, Cond.selects RX3 yX3_storeOf yX3_storeOf, Cond.code yX3_storeOf cX3_storeOf 2 (some (.object "MarkdownPlanner$Store")), Cond.fieldLink RX3 18 "MarkdownPlanner" "stores" "[LMarkdownPlanner$Store;", Cond.methodLink RX3 30 yX3_requireWithin, Cond.static yX3_requireWithin, Cond.code yX3_requireWithin cX3_requireWithin 3 none, Cond.classLink RX3 105 "java/lang/IllegalArgumentException", Cond.initialized "java/lang/IllegalArgumentException", Cond.instanceMethod yX2_waitFrom, Cond.initialized RX2, Cond.selects RX2 yX2_waitFrom yX2_waitFrom, Cond.code yX2_waitFrom cX2_waitFrom 3 (some .int), Cond.fieldLink RX2 18 "MarkdownPlanner$Store" "markedDownIn" "I", Cond.methodLink RX2 28 Lib.Math.max.name, Cond.static Lib.Math.max.name]
def wsL_weeksToWait_r2 : List Cond := [Cond.initialized "java/lang/Math", Cond.code Lib.Math.max.name Lib.Math.max.code 2 (some .int)]
def wsL_weeksToWait : List Cond := .codeWith yL_weeksToWait cL_weeksToWait 4 (some .int) [(0, 9, 12, 13)] :: ((wsL_weeksToWait_r1 ++ wsL_weeksToWait_r2) ++ wsX30 ++ wsX10 ++ wsX20 ++ (vx_atS RX3 109 "java/lang/IllegalArgumentException" ["java/lang/RuntimeException", "java/lang/Exception"]).filter goodWord)
def wsL_sold : List Cond := .codeWith yL_sold cL_sold 4 (some .int) [(0, 9, 12, 13)] :: ([.classLink RL 13 "java/lang/IllegalArgumentException", .methodLink RL 52 yX3_sold, .instanceMethod yX3_sold, .selects RX3 yX3_sold yX3_sold, .initialized RX3, .code yX3_sold cX3_sold 2 (some .int), .methodLink RX3 62 yX3_storeOf, .instanceMethod yX3_storeOf, .selects RX3 yX3_storeOf yX3_storeOf, .code yX3_storeOf cX3_storeOf 2 (some (.object "MarkdownPlanner$Store")), .fieldLink RX3 18 "MarkdownPlanner" "stores" "[LMarkdownPlanner$Store;", .methodLink RX3 30 yX3_requireWithin, .static yX3_requireWithin, .code yX3_requireWithin cX3_requireWithin 3 none, .classLink RX3 105 "java/lang/IllegalArgumentException", .initialized "java/lang/IllegalArgumentException"] ++ wsX20 ++ wsX30 ++ (vx_atS RX3 109 "java/lang/IllegalArgumentException" ["java/lang/RuntimeException", "java/lang/Exception"]).filter goodWord)
def wsL_wouldSell_r1 : List Cond := [Cond.classLink RL 13 "java/lang/IllegalArgumentException", Cond.methodLink RL 55 yX3_wouldSell, Cond.instanceMethod yX3_wouldSell, Cond.selects RX3 yX3_wouldSell yX3_wouldSell, Cond.initialized RX3, Cond.code yX3_wouldSell cX3_wouldSell 4 (some .int), Cond.methodLink RX3 62 yX3_storeOf, Cond.instanceMethod yX3_storeOf, Cond.selects RX3 yX3_storeOf yX3_storeOf, Cond.code yX3_storeOf cX3_storeOf 2 (some (.object "MarkdownPlanner$Store")), Cond.fieldLink RX3 18 "MarkdownPlanner" "stores" "[LMarkdownPlanner$Store;", Cond.methodLink RX3 30 yX3_requireWithin, Cond.static yX3_requireWithin, Cond.code yX3_requireWithin cX3_requireWithin 3 none, Cond.classLink RX3 105 "java/lang/IllegalArgumentException", Cond.initialized "java/lang/IllegalArgumentException", Cond.methodLink RX3 44 yX3_requireStep, Cond.static yX3_requireStep, Cond.code yX3_requireStep cX3_requireStep 1 none, Cond.instanceMethod yX2_salesAt, Cond.initialized RX2, Cond.selects RX2 yX2_salesAt yX2_salesAt, Cond.code yX2_salesAt cX2_salesAt 2 (some .int), Cond.fieldLink RX2 9 "MarkdownPlanner$Store" "demands" "[I"]
def wsL_wouldSell_r2 : List Cond := [Cond.methodLink RX2 41 Lib.Math.min.name, Cond.static Lib.Math.min.name, Cond.initialized "java/lang/Math", Cond.code Lib.Math.min.name Lib.Math.min.code 2 (some .int), Cond.methodLink RX2 34 yX2_sizesInStock, Cond.instanceMethod yX2_sizesInStock, Cond.selects RX2 yX2_sizesInStock yX2_sizesInStock, Cond.code yX2_sizesInStock cX2_sizesInStock 3 (some .int), Cond.fieldLink RX2 15 "MarkdownPlanner$Store" "pieces" "[I", Cond.methodLink RX2 38 yX2_wholeStock, Cond.instanceMethod yX2_wholeStock, Cond.selects RX2 yX2_wholeStock yX2_wholeStock, Cond.code yX2_wholeStock cX2_wholeStock 3 (some .int)]
def wsL_wouldSell : List Cond := .codeWith yL_wouldSell cL_wouldSell 5 (some .int) [(0, 10, 13, 13)] :: ((wsL_wouldSell_r1 ++ wsL_wouldSell_r2) ++ wsX30 ++ wsX20 ++ (vx_atS RX3 109 "java/lang/IllegalArgumentException" ["java/lang/RuntimeException", "java/lang/Exception"]).filter goodWord)
def wsL_best_r1 : List Cond := [Cond.classLink RL 13 "java/lang/IllegalArgumentException", Cond.methodLink RL 58 yX3_best, Cond.instanceMethod yX3_best, Cond.selects RX3 yX3_best yX3_best, Cond.initialized RX3, Cond.code yX3_best cX3_best 2 (some .int), Cond.fieldLink RX3 25 "MarkdownPlanner" "plans" "LMarkdownPlanner$Plans;", Cond.fieldLink RX3 12 "MarkdownPlanner" "season" "LMarkdownPlanner$Season;", Cond.methodLink RX3 62 yX3_storeOf, Cond.instanceMethod yX3_storeOf, Cond.selects RX3 yX3_storeOf yX3_storeOf, Cond.code yX3_storeOf cX3_storeOf 2 (some (.object "MarkdownPlanner$Store")), Cond.fieldLink RX3 18 "MarkdownPlanner" "stores" "[LMarkdownPlanner$Store;", Cond.methodLink RX3 30 yX3_requireWithin, Cond.static yX3_requireWithin, Cond.code yX3_requireWithin cX3_requireWithin 3 none, Cond.classLink RX3 105 "java/lang/IllegalArgumentException", Cond.initialized "java/lang/IllegalArgumentException", Cond.instanceMethod yX0_lookAt, Cond.initialized RX0, Cond.selects RX0 yX0_lookAt yX0_lookAt, Cond.code yX0_lookAt cX0_lookAt 3 none, Cond.fieldLink RX0 9 "MarkdownPlanner$Plans" "prices" "[I", Cond.methodLink RX0 27 arraycopyName]
def wsL_best_r2 : List Cond := [Cond.native arraycopyName, Cond.static arraycopyName, Cond.initialized "java/lang/System", Cond.fieldLink RX0 15 "MarkdownPlanner$Plans" "demands" "[I", Cond.fieldLink RX0 40 "MarkdownPlanner$Plans" "firstWeek" "I", Cond.fieldLink RX0 46 "MarkdownPlanner$Plans" "endWeek" "I", Cond.fieldLink RX0 52 "MarkdownPlanner$Plans" "gap" "I", Cond.fieldLink RX0 56 "MarkdownPlanner$Plans" "remnant" "I", Cond.methodLink RX0 61 Lib.Math.min.name, Cond.static Lib.Math.min.name, Cond.initialized "java/lang/Math", Cond.code Lib.Math.min.name Lib.Math.min.code 2 (some .int), Cond.fieldLink RX0 66 "MarkdownPlanner$Plans" "freeWeek" "I", Cond.fieldLink RX0 72 "MarkdownPlanner$Plans" "ownStep" "I", Cond.fieldLink RX0 79 "MarkdownPlanner$Plans" "ownStock" "I", Cond.instanceMethod yX2_waitFrom, Cond.initialized RX2, Cond.selects RX2 yX2_waitFrom yX2_waitFrom, Cond.code yX2_waitFrom cX2_waitFrom 3 (some .int), Cond.fieldLink RX2 18 "MarkdownPlanner$Store" "markedDownIn" "I", Cond.methodLink RX2 28 Lib.Math.max.name, Cond.static Lib.Math.max.name, Cond.code Lib.Math.max.name Lib.Math.max.code 2 (some .int), Cond.instanceMethod yX2_wholeStock]
def wsL_best_r3 : List Cond := [Cond.selects RX2 yX2_wholeStock yX2_wholeStock, Cond.code yX2_wholeStock cX2_wholeStock 3 (some .int), Cond.fieldLink RX2 15 "MarkdownPlanner$Store" "pieces" "[I", Cond.instanceMethod yX0_greatestWorth, Cond.selects RX0 yX0_greatestWorth yX0_greatestWorth, Cond.code yX0_greatestWorth cX0_greatestWorth 2 (some .int), Cond.methodLink RX0 82 yX0_tellWorths, Cond.instanceMethod yX0_tellWorths, Cond.selects RX0 yX0_tellWorths yX0_tellWorths, Cond.code yX0_tellWorths cX0_tellWorths 5 none, Cond.fieldLink RX0 94 "MarkdownPlanner$Plans" "mostLeft" "I", Cond.fieldLink RX0 18 "MarkdownPlanner$Plans" "worths" "[I", Cond.methodLink RX0 97 yX0_placeOf, Cond.static yX0_placeOf, Cond.code yX0_placeOf cX0_placeOf 3 (some .int), Cond.methodLink RX0 100 yX0_worthOfChoosing, Cond.instanceMethod yX0_worthOfChoosing, Cond.selects RX0 yX0_worthOfChoosing yX0_worthOfChoosing, Cond.code yX0_worthOfChoosing cX0_worthOfChoosing 6 (some .int), Cond.methodLink RX0 106 Lib.Math.max.name, Cond.methodLink RX0 103 yX0_worthOfTaking, Cond.instanceMethod yX0_worthOfTaking, Cond.selects RX0 yX0_worthOfTaking yX0_worthOfTaking, Cond.code yX0_worthOfTaking cX0_worthOfTaking 5 (some .int)]
def wsL_best_r4 : List Cond := [Cond.methodLink RX0 86 yX0_worthOfKeeping, Cond.instanceMethod yX0_worthOfKeeping, Cond.selects RX0 yX0_worthOfKeeping yX0_worthOfKeeping, Cond.code yX0_worthOfKeeping cX0_worthOfKeeping 8 (some .int), Cond.methodLink RX0 109 yX0_worthFrom, Cond.instanceMethod yX0_worthFrom, Cond.selects RX0 yX0_worthFrom yX0_worthFrom, Cond.code yX0_worthFrom cX0_worthFrom 4 (some .int)]
def wsL_best : List Cond := .codeWith yL_best cL_best 4 (some .int) [(0, 9, 12, 13)] :: ((wsL_best_r1 ++ (wsL_best_r2 ++ (wsL_best_r3 ++ wsL_best_r4))) ++ wsX30 ++ wsX10 ++ wsX00 ++ wsX20 ++ (vx_atS RX3 109 "java/lang/IllegalArgumentException" ["java/lang/RuntimeException", "java/lang/Exception"]).filter goodWord)
def wsL_bestByAll_r1 : List Cond := [Cond.classLink RL 13 "java/lang/IllegalArgumentException", Cond.classLink RL 19 "java/lang/IllegalStateException", Cond.methodLink RL 61 yX3_bestByAll, Cond.instanceMethod yX3_bestByAll, Cond.selects RX3 yX3_bestByAll yX3_bestByAll, Cond.initialized RX3, Cond.code yX3_bestByAll cX3_bestByAll 3 (some .int), Cond.classLink RX3 51 "java/lang/IllegalStateException", Cond.initialized "java/lang/IllegalStateException", Cond.fieldLink RX3 12 "MarkdownPlanner" "season" "LMarkdownPlanner$Season;", Cond.fieldLink RX3 25 "MarkdownPlanner" "plans" "LMarkdownPlanner$Plans;", Cond.methodLink RX3 62 yX3_storeOf, Cond.instanceMethod yX3_storeOf, Cond.selects RX3 yX3_storeOf yX3_storeOf, Cond.code yX3_storeOf cX3_storeOf 2 (some (.object "MarkdownPlanner$Store")), Cond.fieldLink RX3 18 "MarkdownPlanner" "stores" "[LMarkdownPlanner$Store;", Cond.methodLink RX3 30 yX3_requireWithin, Cond.static yX3_requireWithin, Cond.code yX3_requireWithin cX3_requireWithin 3 none, Cond.classLink RX3 105 "java/lang/IllegalArgumentException", Cond.initialized "java/lang/IllegalArgumentException", Cond.instanceMethod yX0_lookAt, Cond.initialized RX0, Cond.selects RX0 yX0_lookAt yX0_lookAt]
def wsL_bestByAll_r2 : List Cond := [Cond.code yX0_lookAt cX0_lookAt 3 none, Cond.fieldLink RX0 9 "MarkdownPlanner$Plans" "prices" "[I", Cond.methodLink RX0 27 arraycopyName, Cond.native arraycopyName, Cond.static arraycopyName, Cond.initialized "java/lang/System", Cond.fieldLink RX0 15 "MarkdownPlanner$Plans" "demands" "[I", Cond.fieldLink RX0 40 "MarkdownPlanner$Plans" "firstWeek" "I", Cond.fieldLink RX0 46 "MarkdownPlanner$Plans" "endWeek" "I", Cond.fieldLink RX0 52 "MarkdownPlanner$Plans" "gap" "I", Cond.fieldLink RX0 56 "MarkdownPlanner$Plans" "remnant" "I", Cond.methodLink RX0 61 Lib.Math.min.name, Cond.static Lib.Math.min.name, Cond.initialized "java/lang/Math", Cond.code Lib.Math.min.name Lib.Math.min.code 2 (some .int), Cond.fieldLink RX0 66 "MarkdownPlanner$Plans" "freeWeek" "I", Cond.fieldLink RX0 72 "MarkdownPlanner$Plans" "ownStep" "I", Cond.fieldLink RX0 79 "MarkdownPlanner$Plans" "ownStock" "I", Cond.instanceMethod yX2_waitFrom, Cond.initialized RX2, Cond.selects RX2 yX2_waitFrom yX2_waitFrom, Cond.code yX2_waitFrom cX2_waitFrom 3 (some .int), Cond.fieldLink RX2 18 "MarkdownPlanner$Store" "markedDownIn" "I", Cond.methodLink RX2 28 Lib.Math.max.name]
def wsL_bestByAll_r3 : List Cond := [Cond.static Lib.Math.max.name, Cond.code Lib.Math.max.name Lib.Math.max.code 2 (some .int), Cond.instanceMethod yX2_wholeStock, Cond.selects RX2 yX2_wholeStock yX2_wholeStock, Cond.code yX2_wholeStock cX2_wholeStock 3 (some .int), Cond.fieldLink RX2 15 "MarkdownPlanner$Store" "pieces" "[I", Cond.instanceMethod yX0_greatestWorthByAll, Cond.selects RX0 yX0_greatestWorthByAll yX0_greatestWorthByAll, Cond.code yX0_greatestWorthByAll cX0_greatestWorthByAll 5 (some .int), Cond.fieldLink RX0 21 "MarkdownPlanner$Plans" "ladder" "[I", Cond.constant RX0 112 (1000000), Cond.methodLink RX0 106 Lib.Math.max.name, Cond.methodLink RX0 113 yX0_worthOfLadder, Cond.instanceMethod yX0_worthOfLadder, Cond.selects RX0 yX0_worthOfLadder yX0_worthOfLadder, Cond.code yX0_worthOfLadder cX0_worthOfLadder 9 (some .int), Cond.methodLink RX0 117 yX0_turnToNextLadder, Cond.instanceMethod yX0_turnToNextLadder, Cond.selects RX0 yX0_turnToNextLadder yX0_turnToNextLadder, Cond.code yX0_turnToNextLadder cX0_turnToNextLadder 5 (some .boolean)]
def wsL_bestByAll : List Cond := .codeWith yL_bestByAll cL_bestByAll 4 (some .int) [(0, 9, 12, 13), (0, 9, 15, 19)] :: ((wsL_bestByAll_r1 ++ (wsL_bestByAll_r2 ++ wsL_bestByAll_r3)) ++ wsX30 ++ wsX10 ++ wsX00 ++ wsX20 ++ (vx_atS RX3 55 "java/lang/IllegalStateException" ["java/lang/RuntimeException", "java/lang/Exception"]).filter goodWord ++ (vx_atS RX3 109 "java/lang/IllegalArgumentException" ["java/lang/RuntimeException", "java/lang/Exception"]).filter goodWord)
def wsL_planned_r1 : List Cond := [Cond.classLink RL 13 "java/lang/IllegalArgumentException", Cond.methodLink RL 64 yX3_planned, Cond.instanceMethod yX3_planned, Cond.selects RX3 yX3_planned yX3_planned, Cond.initialized RX3, Cond.code yX3_planned cX3_planned 4 (some .int), Cond.fieldLink RX3 12 "MarkdownPlanner" "season" "LMarkdownPlanner$Season;", Cond.fieldLink RX3 25 "MarkdownPlanner" "plans" "LMarkdownPlanner$Plans;", Cond.methodLink RX3 62 yX3_storeOf, Cond.instanceMethod yX3_storeOf, Cond.selects RX3 yX3_storeOf yX3_storeOf, Cond.code yX3_storeOf cX3_storeOf 2 (some (.object "MarkdownPlanner$Store")), Cond.fieldLink RX3 18 "MarkdownPlanner" "stores" "[LMarkdownPlanner$Store;", Cond.methodLink RX3 30 yX3_requireWithin, Cond.static yX3_requireWithin, Cond.code yX3_requireWithin cX3_requireWithin 3 none, Cond.classLink RX3 105 "java/lang/IllegalArgumentException", Cond.initialized "java/lang/IllegalArgumentException", Cond.instanceMethod yX0_lookAt, Cond.initialized RX0, Cond.selects RX0 yX0_lookAt yX0_lookAt, Cond.code yX0_lookAt cX0_lookAt 3 none, Cond.fieldLink RX0 9 "MarkdownPlanner$Plans" "prices" "[I", Cond.methodLink RX0 27 arraycopyName]
def wsL_planned_r2 : List Cond := [Cond.native arraycopyName, Cond.static arraycopyName, Cond.initialized "java/lang/System", Cond.fieldLink RX0 15 "MarkdownPlanner$Plans" "demands" "[I", Cond.fieldLink RX0 40 "MarkdownPlanner$Plans" "firstWeek" "I", Cond.fieldLink RX0 46 "MarkdownPlanner$Plans" "endWeek" "I", Cond.fieldLink RX0 52 "MarkdownPlanner$Plans" "gap" "I", Cond.fieldLink RX0 56 "MarkdownPlanner$Plans" "remnant" "I", Cond.methodLink RX0 61 Lib.Math.min.name, Cond.static Lib.Math.min.name, Cond.initialized "java/lang/Math", Cond.code Lib.Math.min.name Lib.Math.min.code 2 (some .int), Cond.fieldLink RX0 66 "MarkdownPlanner$Plans" "freeWeek" "I", Cond.fieldLink RX0 72 "MarkdownPlanner$Plans" "ownStep" "I", Cond.fieldLink RX0 79 "MarkdownPlanner$Plans" "ownStock" "I", Cond.instanceMethod yX2_waitFrom, Cond.initialized RX2, Cond.selects RX2 yX2_waitFrom yX2_waitFrom, Cond.code yX2_waitFrom cX2_waitFrom 3 (some .int), Cond.fieldLink RX2 18 "MarkdownPlanner$Store" "markedDownIn" "I", Cond.methodLink RX2 28 Lib.Math.max.name, Cond.static Lib.Math.max.name, Cond.code Lib.Math.max.name Lib.Math.max.code 2 (some .int), Cond.instanceMethod yX2_wholeStock]
def wsL_planned_r3 : List Cond := [Cond.selects RX2 yX2_wholeStock yX2_wholeStock, Cond.code yX2_wholeStock cX2_wholeStock 3 (some .int), Cond.fieldLink RX2 15 "MarkdownPlanner$Store" "pieces" "[I", Cond.instanceMethod yX0_bestStepIn, Cond.selects RX0 yX0_bestStepIn yX0_bestStepIn, Cond.code yX0_bestStepIn cX0_bestStepIn 7 (some .int), Cond.methodLink RX0 82 yX0_tellWorths, Cond.instanceMethod yX0_tellWorths, Cond.selects RX0 yX0_tellWorths yX0_tellWorths, Cond.code yX0_tellWorths cX0_tellWorths 5 none, Cond.fieldLink RX0 94 "MarkdownPlanner$Plans" "mostLeft" "I", Cond.fieldLink RX0 18 "MarkdownPlanner$Plans" "worths" "[I", Cond.methodLink RX0 97 yX0_placeOf, Cond.static yX0_placeOf, Cond.code yX0_placeOf cX0_placeOf 3 (some .int), Cond.methodLink RX0 100 yX0_worthOfChoosing, Cond.instanceMethod yX0_worthOfChoosing, Cond.selects RX0 yX0_worthOfChoosing yX0_worthOfChoosing, Cond.code yX0_worthOfChoosing cX0_worthOfChoosing 6 (some .int), Cond.methodLink RX0 106 Lib.Math.max.name, Cond.methodLink RX0 103 yX0_worthOfTaking, Cond.instanceMethod yX0_worthOfTaking, Cond.selects RX0 yX0_worthOfTaking yX0_worthOfTaking, Cond.code yX0_worthOfTaking cX0_worthOfTaking 5 (some .int)]
def wsL_planned_r4 : List Cond := [Cond.methodLink RX0 86 yX0_worthOfKeeping, Cond.instanceMethod yX0_worthOfKeeping, Cond.selects RX0 yX0_worthOfKeeping yX0_worthOfKeeping, Cond.code yX0_worthOfKeeping cX0_worthOfKeeping 8 (some .int), Cond.methodLink RX0 109 yX0_worthFrom, Cond.instanceMethod yX0_worthFrom, Cond.selects RX0 yX0_worthFrom yX0_worthFrom, Cond.code yX0_worthFrom cX0_worthFrom 4 (some .int), Cond.methodLink RX0 90 yX0_lowestBestStep, Cond.instanceMethod yX0_lowestBestStep, Cond.selects RX0 yX0_lowestBestStep yX0_lowestBestStep, Cond.code yX0_lowestBestStep cX0_lowestBestStep 6 (some .int)]
def wsL_planned : List Cond := .codeWith yL_planned cL_planned 5 (some .int) [(0, 10, 13, 13)] :: ((wsL_planned_r1 ++ (wsL_planned_r2 ++ (wsL_planned_r3 ++ wsL_planned_r4))) ++ wsX30 ++ wsX10 ++ wsX00 ++ wsX20 ++ (vx_atS RX3 109 "java/lang/IllegalArgumentException" ["java/lang/RuntimeException", "java/lang/Exception"]).filter goodWord)
def wsL_bestLeaving_r1 : List Cond := [Cond.classLink RL 13 "java/lang/IllegalArgumentException", Cond.methodLink RL 67 yX3_bestLeaving, Cond.instanceMethod yX3_bestLeaving, Cond.selects RX3 yX3_bestLeaving yX3_bestLeaving, Cond.initialized RX3, Cond.code yX3_bestLeaving cX3_bestLeaving 4 (some .int), Cond.fieldLink RX3 25 "MarkdownPlanner" "plans" "LMarkdownPlanner$Plans;", Cond.fieldLink RX3 12 "MarkdownPlanner" "season" "LMarkdownPlanner$Season;", Cond.methodLink RX3 62 yX3_storeOf, Cond.instanceMethod yX3_storeOf, Cond.selects RX3 yX3_storeOf yX3_storeOf, Cond.code yX3_storeOf cX3_storeOf 2 (some (.object "MarkdownPlanner$Store")), Cond.fieldLink RX3 18 "MarkdownPlanner" "stores" "[LMarkdownPlanner$Store;", Cond.methodLink RX3 30 yX3_requireWithin, Cond.static yX3_requireWithin, Cond.code yX3_requireWithin cX3_requireWithin 3 none, Cond.classLink RX3 105 "java/lang/IllegalArgumentException", Cond.initialized "java/lang/IllegalArgumentException", Cond.instanceMethod yX0_lookAt, Cond.initialized RX0, Cond.selects RX0 yX0_lookAt yX0_lookAt, Cond.code yX0_lookAt cX0_lookAt 3 none, Cond.fieldLink RX0 9 "MarkdownPlanner$Plans" "prices" "[I", Cond.methodLink RX0 27 arraycopyName]
def wsL_bestLeaving_r2 : List Cond := [Cond.native arraycopyName, Cond.static arraycopyName, Cond.initialized "java/lang/System", Cond.fieldLink RX0 15 "MarkdownPlanner$Plans" "demands" "[I", Cond.fieldLink RX0 40 "MarkdownPlanner$Plans" "firstWeek" "I", Cond.fieldLink RX0 46 "MarkdownPlanner$Plans" "endWeek" "I", Cond.fieldLink RX0 52 "MarkdownPlanner$Plans" "gap" "I", Cond.fieldLink RX0 56 "MarkdownPlanner$Plans" "remnant" "I", Cond.methodLink RX0 61 Lib.Math.min.name, Cond.static Lib.Math.min.name, Cond.initialized "java/lang/Math", Cond.code Lib.Math.min.name Lib.Math.min.code 2 (some .int), Cond.fieldLink RX0 66 "MarkdownPlanner$Plans" "freeWeek" "I", Cond.fieldLink RX0 72 "MarkdownPlanner$Plans" "ownStep" "I", Cond.fieldLink RX0 79 "MarkdownPlanner$Plans" "ownStock" "I", Cond.instanceMethod yX2_waitFrom, Cond.initialized RX2, Cond.selects RX2 yX2_waitFrom yX2_waitFrom, Cond.code yX2_waitFrom cX2_waitFrom 3 (some .int), Cond.fieldLink RX2 18 "MarkdownPlanner$Store" "markedDownIn" "I", Cond.methodLink RX2 28 Lib.Math.max.name, Cond.static Lib.Math.max.name, Cond.code Lib.Math.max.name Lib.Math.max.code 2 (some .int), Cond.instanceMethod yX2_wholeStock]
def wsL_bestLeaving_r3 : List Cond := [Cond.selects RX2 yX2_wholeStock yX2_wholeStock, Cond.code yX2_wholeStock cX2_wholeStock 3 (some .int), Cond.fieldLink RX2 15 "MarkdownPlanner$Store" "pieces" "[I", Cond.instanceMethod yX0_greatestWorth, Cond.selects RX0 yX0_greatestWorth yX0_greatestWorth, Cond.code yX0_greatestWorth cX0_greatestWorth 2 (some .int), Cond.methodLink RX0 82 yX0_tellWorths, Cond.instanceMethod yX0_tellWorths, Cond.selects RX0 yX0_tellWorths yX0_tellWorths, Cond.code yX0_tellWorths cX0_tellWorths 5 none, Cond.fieldLink RX0 94 "MarkdownPlanner$Plans" "mostLeft" "I", Cond.fieldLink RX0 18 "MarkdownPlanner$Plans" "worths" "[I", Cond.methodLink RX0 97 yX0_placeOf, Cond.static yX0_placeOf, Cond.code yX0_placeOf cX0_placeOf 3 (some .int), Cond.methodLink RX0 100 yX0_worthOfChoosing, Cond.instanceMethod yX0_worthOfChoosing, Cond.selects RX0 yX0_worthOfChoosing yX0_worthOfChoosing, Cond.code yX0_worthOfChoosing cX0_worthOfChoosing 6 (some .int), Cond.methodLink RX0 106 Lib.Math.max.name, Cond.methodLink RX0 103 yX0_worthOfTaking, Cond.instanceMethod yX0_worthOfTaking, Cond.selects RX0 yX0_worthOfTaking yX0_worthOfTaking, Cond.code yX0_worthOfTaking cX0_worthOfTaking 5 (some .int)]
def wsL_bestLeaving_r4 : List Cond := [Cond.methodLink RX0 86 yX0_worthOfKeeping, Cond.instanceMethod yX0_worthOfKeeping, Cond.selects RX0 yX0_worthOfKeeping yX0_worthOfKeeping, Cond.code yX0_worthOfKeeping cX0_worthOfKeeping 8 (some .int), Cond.methodLink RX0 109 yX0_worthFrom, Cond.instanceMethod yX0_worthFrom, Cond.selects RX0 yX0_worthFrom yX0_worthFrom, Cond.code yX0_worthFrom cX0_worthFrom 4 (some .int)]
def wsL_bestLeaving : List Cond := .codeWith yL_bestLeaving cL_bestLeaving 5 (some .int) [(0, 10, 13, 13)] :: ((wsL_bestLeaving_r1 ++ (wsL_bestLeaving_r2 ++ (wsL_bestLeaving_r3 ++ wsL_bestLeaving_r4))) ++ wsX30 ++ wsX10 ++ wsX00 ++ wsX20 ++ (vx_atS RX3 109 "java/lang/IllegalArgumentException" ["java/lang/RuntimeException", "java/lang/Exception"]).filter goodWord)
def wsL_law0_r1 : List Cond := [Cond.classLink RL 8 RX3, Cond.instantiable RX3 3, Cond.initialized RX3, Cond.classLink RL 71 RX4, Cond.instantiable RX4 14, Cond.initialized RX4, Cond.arrayClass .long, Cond.methodLink RL 70 yX3_init, Cond.instanceMethod yX3_init, Cond.code yX3_init cX3_init 2 none, Cond.methodLink RX3 3 objectInit, Cond.instanceMethod objectInit, Cond.code objectInit ⟨#[0xb1]⟩ 1 none, Cond.classLink RX3 9 RX1, Cond.instantiable RX1 7, Cond.initialized RX1, Cond.fieldLink RX3 12 "MarkdownPlanner" "season" "LMarkdownPlanner$Season;", Cond.classLink RX3 16 RX2, Cond.fieldLink RX3 18 "MarkdownPlanner" "stores" "[LMarkdownPlanner$Store;", Cond.classLink RX3 22 RX0, Cond.instantiable RX0 12, Cond.initialized RX0, Cond.fieldLink RX3 25 "MarkdownPlanner" "plans" "LMarkdownPlanner$Plans;", Cond.instantiable RX2 5]
def wsL_law0_r2 : List Cond := [Cond.initialized RX2, Cond.instanceMethod yX1_init, Cond.code yX1_init cX1_init 2 none, Cond.methodLink RX1 3 objectInit, Cond.arrayClass .int, Cond.fieldLink RX1 9 "MarkdownPlanner$Season" "prices" "[I", Cond.fieldLink RX1 15 "MarkdownPlanner$Season" "weeks" "I", Cond.fieldLink RX1 19 "MarkdownPlanner$Season" "gap" "I", Cond.instanceMethod yX0_init, Cond.code yX0_init cX0_init 1 none, Cond.methodLink RX0 3 objectInit, Cond.fieldLink RX0 9 "MarkdownPlanner$Plans" "prices" "[I", Cond.fieldLink RX0 15 "MarkdownPlanner$Plans" "demands" "[I", Cond.fieldLink RX0 18 "MarkdownPlanner$Plans" "worths" "[I", Cond.fieldLink RX0 21 "MarkdownPlanner$Plans" "ladder" "[I", Cond.instanceMethod yX2_init, Cond.code yX2_init cX2_init 1 none, Cond.methodLink RX2 3 objectInit, Cond.fieldLink RX2 9 "MarkdownPlanner$Store" "demands" "[I", Cond.fieldLink RX2 15 "MarkdownPlanner$Store" "pieces" "[I", Cond.fieldLink RX2 18 "MarkdownPlanner$Store" "markedDownIn" "I", Cond.methodLink RL 73 yX4_init, Cond.instanceMethod yX4_init, Cond.code yX4_init cX4_init 2 none]
def wsL_law0_r3 : List Cond := [Cond.methodLink RX4 1 objectInit, Cond.fieldLink RX4 7 "MarkdownPlannerModel" "weeks" "I", Cond.fieldLink RX4 13 "MarkdownPlannerModel" "price" "[I", Cond.fieldLink RX4 17 "MarkdownPlannerModel" "demand" "[I", Cond.fieldLink RX4 20 "MarkdownPlannerModel" "gap" "I", Cond.fieldLink RX4 23 "MarkdownPlannerModel" "stock" "[I", Cond.fieldLink RX4 26 "MarkdownPlannerModel" "step" "[I", Cond.fieldLink RX4 29 "MarkdownPlannerModel" "last" "[I", Cond.fieldLink RX4 32 "MarkdownPlannerModel" "sold" "[I", Cond.fieldLink RX4 35 "MarkdownPlannerModel" "worth" "[I", Cond.methodLink RL 74 yL_begin, Cond.static yL_begin, Cond.initialized RL, Cond.codeWith yL_begin cL_begin 4 (some .int) [(0, 9, 12, 13)], Cond.classLink RL 13 "java/lang/IllegalArgumentException", Cond.methodLink RL 7 yX3_begin, Cond.instanceMethod yX3_begin, Cond.selects RX3 yX3_begin yX3_begin, Cond.code yX3_begin cX3_begin 7 (some .int), Cond.methodLink RX3 30 yX3_requireWithin, Cond.static yX3_requireWithin, Cond.code yX3_requireWithin cX3_requireWithin 3 none, Cond.classLink RX3 105 "java/lang/IllegalArgumentException", Cond.initialized "java/lang/IllegalArgumentException"]
def wsL_law0_r4 : List Cond := [Cond.instanceMethod yX1_startAnew, Cond.selects RX1 yX1_startAnew yX1_startAnew, Cond.code yX1_startAnew cX1_startAnew 2 none, Cond.fieldLink RX1 22 "MarkdownPlanner$Season" "week" "I", Cond.fieldLink RX1 25 "MarkdownPlanner$Season" "taken" "I", Cond.instanceMethod yX2_startAnew, Cond.selects RX2 yX2_startAnew yX2_startAnew, Cond.code yX2_startAnew cX2_startAnew 1 none, Cond.fieldLink RX2 22 "MarkdownPlanner$Store" "step" "I", Cond.fieldLink RX2 25 "MarkdownPlanner$Store" "piecesSold" "I", Cond.methodLink RL 79 yX4_begin, Cond.instanceMethod yX4_begin, Cond.selects RX4 yX4_begin yX4_begin, Cond.code yX4_begin cX4_begin 4 (some .int), Cond.fieldLink RX4 49 "MarkdownPlannerModel" "week" "I", Cond.fieldLink RX4 52 "MarkdownPlannerModel" "taken" "I", Cond.methodLink RX4 41 yX4_in, Cond.static yX4_in, Cond.code yX4_in cX4_in 3 (some .boolean), Cond.methodLink RX4 45 yX4_asked, Cond.instanceMethod yX4_asked, Cond.selects RX4 yX4_asked yX4_asked, Cond.code yX4_asked cX4_asked 2 (some .boolean), Cond.fieldLink RX4 38 "MarkdownPlannerModel" "thrown" "I"]
def wsL_law0_r5 : List Cond := [Cond.methodLink RL 80 yX4_thrown, Cond.instanceMethod yX4_thrown, Cond.selects RX4 yX4_thrown yX4_thrown, Cond.code yX4_thrown cX4_thrown 1 (some .int), Cond.methodLink RL 83 yL_setPrice, Cond.static yL_setPrice, Cond.codeWith yL_setPrice cL_setPrice 5 (some .int) [(0, 10, 13, 13), (0, 10, 17, 19)], Cond.classLink RL 19 "java/lang/IllegalStateException", Cond.methodLink RL 15 yX3_setPrice, Cond.instanceMethod yX3_setPrice, Cond.selects RX3 yX3_setPrice yX3_setPrice, Cond.code yX3_setPrice cX3_setPrice 4 (some .int), Cond.classLink RX3 51 "java/lang/IllegalStateException", Cond.initialized "java/lang/IllegalStateException", Cond.methodLink RX3 44 yX3_requireStep, Cond.static yX3_requireStep, Cond.code yX3_requireStep cX3_requireStep 1 none, Cond.instanceMethod yX1_keepsLadderDown, Cond.selects RX1 yX1_keepsLadderDown yX1_keepsLadderDown, Cond.code yX1_keepsLadderDown cX1_keepsLadderDown 5 (some .boolean), Cond.methodLink RL 86 yX4_setPrice, Cond.instanceMethod yX4_setPrice, Cond.selects RX4 yX4_setPrice yX4_setPrice, Cond.code yX4_setPrice cX4_setPrice 6 (some .int)]
def wsL_law0_r6 : List Cond := [Cond.methodLink RX4 55 yX4_isStep, Cond.static yX4_isStep, Cond.code yX4_isStep cX4_isStep 1 (some .boolean), Cond.methodLink RX4 59 yX4_asked_, Cond.instanceMethod yX4_asked_, Cond.selects RX4 yX4_asked_ yX4_asked_, Cond.code yX4_asked_ cX4_asked_ 3 (some .boolean), Cond.methodLink RL 87 yL_setDemand, Cond.static yL_setDemand, Cond.codeWith yL_setDemand cL_setDemand 6 (some .int) [(0, 12, 15, 13)], Cond.methodLink RL 21 yX3_setDemand, Cond.instanceMethod yX3_setDemand, Cond.selects RX3 yX3_setDemand yX3_setDemand, Cond.code yX3_setDemand cX3_setDemand 6 (some .int), Cond.methodLink RX3 62 yX3_storeOf, Cond.instanceMethod yX3_storeOf, Cond.selects RX3 yX3_storeOf yX3_storeOf, Cond.code yX3_storeOf cX3_storeOf 2 (some (.object "MarkdownPlanner$Store")), Cond.methodLink RL 90 yX4_setDemand, Cond.instanceMethod yX4_setDemand, Cond.selects RX4 yX4_setDemand yX4_setDemand, Cond.code yX4_setDemand cX4_setDemand 5 (some .int), Cond.methodLink RX4 62 yX4_isStore, Cond.static yX4_isStore]
def wsL_law0_r7 : List Cond := [Cond.code yX4_isStore cX4_isStore 1 (some .boolean), Cond.methodLink RL 91 yL_setRules, Cond.static yL_setRules, Cond.codeWith yL_setRules cL_setRules 5 (some .int) [(0, 7, 10, 13)], Cond.methodLink RL 25 yX3_setRules, Cond.instanceMethod yX3_setRules, Cond.selects RX3 yX3_setRules yX3_setRules, Cond.code yX3_setRules cX3_setRules 4 none, Cond.methodLink RL 94 yX4_setRules, Cond.instanceMethod yX4_setRules, Cond.selects RX4 yX4_setRules yX4_setRules, Cond.code yX4_setRules cX4_setRules 4 none, Cond.fieldLink RX4 65 "MarkdownPlannerModel" "remnant" "I", Cond.fieldLink RX4 68 "MarkdownPlannerModel" "moving" "I", Cond.methodLink RL 95 yL_put, Cond.static yL_put, Cond.codeWith yL_put cL_put 6 (some .int) [(0, 12, 15, 13), (0, 12, 19, 19)], Cond.methodLink RL 29 yX3_put, Cond.instanceMethod yX3_put, Cond.selects RX3 yX3_put yX3_put, Cond.code yX3_put cX3_put 5 (some .int), Cond.methodLink RX3 78 yX3_requireSize, Cond.static yX3_requireSize, Cond.code yX3_requireSize cX3_requireSize 1 none]
def wsL_law0_r8 : List Cond := [Cond.methodLink RX3 81 yX3_requireRoomFor, Cond.static yX3_requireRoomFor, Cond.code yX3_requireRoomFor cX3_requireRoomFor 2 none, Cond.instanceMethod yX2_wholeStock, Cond.selects RX2 yX2_wholeStock yX2_wholeStock, Cond.code yX2_wholeStock cX2_wholeStock 3 (some .int), Cond.methodLink RL 97 yX4_put, Cond.instanceMethod yX4_put, Cond.selects RX4 yX4_put yX4_put, Cond.code yX4_put cX4_put 5 (some .int), Cond.methodLink RX4 71 yX4_isSize, Cond.static yX4_isSize, Cond.code yX4_isSize cX4_isSize 1 (some .boolean), Cond.methodLink RX4 74 yX4_whole, Cond.instanceMethod yX4_whole, Cond.selects RX4 yX4_whole yX4_whole, Cond.code yX4_whole cX4_whole 2 (some .int), Cond.methodLink RL 98 yL_markDown, Cond.static yL_markDown, Cond.codeWith yL_markDown cL_markDown 5 (some .int) [(0, 10, 13, 13), (0, 10, 17, 19)], Cond.methodLink RL 32 yX3_markDown, Cond.instanceMethod yX3_markDown, Cond.selects RX3 yX3_markDown yX3_markDown, Cond.code yX3_markDown cX3_markDown 4 (some .int)]
def wsL_law0_r9 : List Cond := [Cond.methodLink RX3 88 yX3_requireSeasonOn, Cond.instanceMethod yX3_requireSeasonOn, Cond.selects RX3 yX3_requireSeasonOn yX3_requireSeasonOn, Cond.code yX3_requireSeasonOn cX3_requireSeasonOn 1 none, Cond.instanceMethod yX2_waitFrom, Cond.selects RX2 yX2_waitFrom yX2_waitFrom, Cond.code yX2_waitFrom cX2_waitFrom 3 (some .int), Cond.methodLink RX2 28 Lib.Math.max.name, Cond.static Lib.Math.max.name, Cond.initialized "java/lang/Math", Cond.code Lib.Math.max.name Lib.Math.max.code 2 (some .int), Cond.methodLink RL 100 yX4_markDown, Cond.instanceMethod yX4_markDown, Cond.selects RX4 yX4_markDown yX4_markDown, Cond.code yX4_markDown cX4_markDown 4 (some .int), Cond.methodLink RX4 78 yX4_waits, Cond.instanceMethod yX4_waits, Cond.selects RX4 yX4_waits yX4_waits, Cond.code yX4_waits cX4_waits 3 (some .int), Cond.methodLink RL 101 yL_move, Cond.static yL_move, Cond.codeWith yL_move cL_move 7 (some .int) [(0, 14, 17, 13), (0, 14, 21, 19)], Cond.methodLink RL 35 yX3_move, Cond.instanceMethod yX3_move]
def wsL_law0_r10 : List Cond := [Cond.selects RX3 yX3_move yX3_move, Cond.code yX3_move cX3_move 8 (some .int), Cond.methodLink RL 104 yX4_move, Cond.instanceMethod yX4_move, Cond.selects RX4 yX4_move yX4_move, Cond.code yX4_move cX4_move 6 (some .int), Cond.methodLink RL 105 yL_run, Cond.static yL_run, Cond.codeWith yL_run cL_run 3 (some .int) [(0, 8, 11, 19)], Cond.methodLink RL 39 yX3_run, Cond.instanceMethod yX3_run, Cond.selects RX3 yX3_run yX3_run, Cond.code yX3_run cX3_run 6 (some .int), Cond.instanceMethod yX2_sellForAWeek, Cond.selects RX2 yX2_sellForAWeek yX2_sellForAWeek, Cond.code yX2_sellForAWeek cX2_sellForAWeek 3 (some .int), Cond.methodLink RX2 44 yX2_salesAt, Cond.instanceMethod yX2_salesAt, Cond.selects RX2 yX2_salesAt yX2_salesAt, Cond.code yX2_salesAt cX2_salesAt 2 (some .int), Cond.methodLink RX2 41 Lib.Math.min.name, Cond.static Lib.Math.min.name, Cond.code Lib.Math.min.name Lib.Math.min.code 2 (some .int), Cond.methodLink RX2 34 yX2_sizesInStock]
def wsL_law0_r11 : List Cond := [Cond.instanceMethod yX2_sizesInStock, Cond.selects RX2 yX2_sizesInStock yX2_sizesInStock, Cond.code yX2_sizesInStock cX2_sizesInStock 3 (some .int), Cond.methodLink RX2 38 yX2_wholeStock, Cond.methodLink RX2 48 yX2_fullestSize, Cond.instanceMethod yX2_fullestSize, Cond.selects RX2 yX2_fullestSize yX2_fullestSize, Cond.code yX2_fullestSize cX2_fullestSize 3 (some .int), Cond.methodLink RL 108 yX4_run, Cond.instanceMethod yX4_run, Cond.selects RX4 yX4_run yX4_run, Cond.code yX4_run cX4_run 6 (some .int), Cond.methodLink RX4 81 yX4_sells, Cond.instanceMethod yX4_sells, Cond.selects RX4 yX4_sells yX4_sells, Cond.code yX4_sells cX4_sells 5 (some .int), Cond.methodLink RL 109 yX3_week, Cond.instanceMethod yX3_week, Cond.selects RX3 yX3_week yX3_week, Cond.code yX3_week cX3_week 1 (some .int), Cond.methodLink RL 112 yX4_week, Cond.instanceMethod yX4_week, Cond.selects RX4 yX4_week yX4_week, Cond.code yX4_week cX4_week 1 (some .int)]
def wsL_law0_r12 : List Cond := [Cond.methodLink RX4 85 yX4_told, Cond.instanceMethod yX4_told, Cond.selects RX4 yX4_told yX4_told, Cond.code yX4_told cX4_told 2 (some .int), Cond.methodLink RL 113 yL_stock, Cond.static yL_stock, Cond.codeWith yL_stock cL_stock 5 (some .int) [(0, 10, 13, 13)], Cond.methodLink RL 43 yX3_stock, Cond.instanceMethod yX3_stock, Cond.selects RX3 yX3_stock yX3_stock, Cond.code yX3_stock cX3_stock 4 (some .int), Cond.methodLink RL 115 yX4_stock, Cond.instanceMethod yX4_stock, Cond.selects RX4 yX4_stock yX4_stock, Cond.code yX4_stock cX4_stock 3 (some .int), Cond.methodLink RL 116 yL_step, Cond.static yL_step, Cond.codeWith yL_step cL_step 4 (some .int) [(0, 9, 12, 13)], Cond.methodLink RL 46 yX3_step, Cond.instanceMethod yX3_step, Cond.selects RX3 yX3_step yX3_step, Cond.code yX3_step cX3_step 2 (some .int), Cond.methodLink RL 118 yX4_step, Cond.instanceMethod yX4_step]
def wsL_law0_r13 : List Cond := [Cond.selects RX4 yX4_step yX4_step, Cond.code yX4_step cX4_step 2 (some .int), Cond.methodLink RL 119 yL_weeksToWait, Cond.static yL_weeksToWait, Cond.codeWith yL_weeksToWait cL_weeksToWait 4 (some .int) [(0, 9, 12, 13)], Cond.methodLink RL 49 yX3_weeksToWait, Cond.instanceMethod yX3_weeksToWait, Cond.selects RX3 yX3_weeksToWait yX3_weeksToWait, Cond.code yX3_weeksToWait cX3_weeksToWait 2 (some .int), Cond.methodLink RL 121 yX4_weeksToWait, Cond.instanceMethod yX4_weeksToWait, Cond.selects RX4 yX4_weeksToWait yX4_weeksToWait, Cond.code yX4_weeksToWait cX4_weeksToWait 2 (some .int), Cond.methodLink RL 122 yL_sold, Cond.static yL_sold, Cond.codeWith yL_sold cL_sold 4 (some .int) [(0, 9, 12, 13)], Cond.methodLink RL 52 yX3_sold, Cond.instanceMethod yX3_sold, Cond.selects RX3 yX3_sold yX3_sold, Cond.code yX3_sold cX3_sold 2 (some .int), Cond.methodLink RL 124 yX4_sold, Cond.instanceMethod yX4_sold, Cond.selects RX4 yX4_sold yX4_sold, Cond.code yX4_sold cX4_sold 2 (some .int)]
def wsL_law0_r14 : List Cond := [Cond.methodLink RL 125 yX3_taken, Cond.instanceMethod yX3_taken, Cond.selects RX3 yX3_taken yX3_taken, Cond.code yX3_taken cX3_taken 1 (some .int), Cond.methodLink RL 128 yX4_taken, Cond.instanceMethod yX4_taken, Cond.selects RX4 yX4_taken yX4_taken, Cond.code yX4_taken cX4_taken 1 (some .int), Cond.methodLink RL 129 yL_wouldSell, Cond.static yL_wouldSell, Cond.codeWith yL_wouldSell cL_wouldSell 5 (some .int) [(0, 10, 13, 13)], Cond.methodLink RL 55 yX3_wouldSell, Cond.instanceMethod yX3_wouldSell, Cond.selects RX3 yX3_wouldSell yX3_wouldSell, Cond.code yX3_wouldSell cX3_wouldSell 4 (some .int), Cond.methodLink RL 131 yX4_wouldSell, Cond.instanceMethod yX4_wouldSell, Cond.selects RX4 yX4_wouldSell yX4_wouldSell, Cond.code yX4_wouldSell cX4_wouldSell 3 (some .int), Cond.methodLink RL 132 yL_best, Cond.static yL_best, Cond.codeWith yL_best cL_best 4 (some .int) [(0, 9, 12, 13)], Cond.methodLink RL 58 yX3_best, Cond.instanceMethod yX3_best]
def wsL_law0_r15 : List Cond := [Cond.selects RX3 yX3_best yX3_best, Cond.code yX3_best cX3_best 2 (some .int), Cond.instanceMethod yX0_lookAt, Cond.selects RX0 yX0_lookAt yX0_lookAt, Cond.code yX0_lookAt cX0_lookAt 3 none, Cond.methodLink RX0 27 arraycopyName, Cond.native arraycopyName, Cond.static arraycopyName, Cond.initialized "java/lang/System", Cond.fieldLink RX0 40 "MarkdownPlanner$Plans" "firstWeek" "I", Cond.fieldLink RX0 46 "MarkdownPlanner$Plans" "endWeek" "I", Cond.fieldLink RX0 52 "MarkdownPlanner$Plans" "gap" "I", Cond.fieldLink RX0 56 "MarkdownPlanner$Plans" "remnant" "I", Cond.methodLink RX0 61 Lib.Math.min.name, Cond.fieldLink RX0 66 "MarkdownPlanner$Plans" "freeWeek" "I", Cond.fieldLink RX0 72 "MarkdownPlanner$Plans" "ownStep" "I", Cond.fieldLink RX0 79 "MarkdownPlanner$Plans" "ownStock" "I", Cond.instanceMethod yX0_greatestWorth, Cond.selects RX0 yX0_greatestWorth yX0_greatestWorth, Cond.code yX0_greatestWorth cX0_greatestWorth 2 (some .int), Cond.methodLink RX0 82 yX0_tellWorths, Cond.instanceMethod yX0_tellWorths, Cond.selects RX0 yX0_tellWorths yX0_tellWorths, Cond.code yX0_tellWorths cX0_tellWorths 5 none]
def wsL_law0_r16 : List Cond := [Cond.fieldLink RX0 94 "MarkdownPlanner$Plans" "mostLeft" "I", Cond.methodLink RX0 97 yX0_placeOf, Cond.static yX0_placeOf, Cond.code yX0_placeOf cX0_placeOf 3 (some .int), Cond.methodLink RX0 100 yX0_worthOfChoosing, Cond.instanceMethod yX0_worthOfChoosing, Cond.selects RX0 yX0_worthOfChoosing yX0_worthOfChoosing, Cond.code yX0_worthOfChoosing cX0_worthOfChoosing 6 (some .int), Cond.methodLink RX0 106 Lib.Math.max.name, Cond.methodLink RX0 103 yX0_worthOfTaking, Cond.instanceMethod yX0_worthOfTaking, Cond.selects RX0 yX0_worthOfTaking yX0_worthOfTaking, Cond.code yX0_worthOfTaking cX0_worthOfTaking 5 (some .int), Cond.methodLink RX0 86 yX0_worthOfKeeping, Cond.instanceMethod yX0_worthOfKeeping, Cond.selects RX0 yX0_worthOfKeeping yX0_worthOfKeeping, Cond.code yX0_worthOfKeeping cX0_worthOfKeeping 8 (some .int), Cond.methodLink RX0 109 yX0_worthFrom, Cond.instanceMethod yX0_worthFrom, Cond.selects RX0 yX0_worthFrom yX0_worthFrom, Cond.code yX0_worthFrom cX0_worthFrom 4 (some .int), Cond.methodLink RL 134 yX4_best, Cond.instanceMethod yX4_best, Cond.selects RX4 yX4_best yX4_best]
def wsL_law0_r17 : List Cond := [Cond.code yX4_best cX4_best 2 (some .int), Cond.methodLink RX4 96 yX4_finds, Cond.instanceMethod yX4_finds, Cond.selects RX4 yX4_finds yX4_finds, Cond.code yX4_finds cX4_finds 9 (some .int), Cond.methodLink RX4 92 yX4_worthOf, Cond.instanceMethod yX4_worthOf, Cond.selects RX4 yX4_worthOf yX4_worthOf, Cond.code yX4_worthOf cX4_worthOf 10 (some .int), Cond.methodLink RX4 88 yX4_at, Cond.static yX4_at, Cond.code yX4_at cX4_at 4 (some .int), Cond.methodLink RL 135 yL_bestByAll, Cond.static yL_bestByAll, Cond.codeWith yL_bestByAll cL_bestByAll 4 (some .int) [(0, 9, 12, 13), (0, 9, 15, 19)], Cond.methodLink RL 61 yX3_bestByAll, Cond.instanceMethod yX3_bestByAll, Cond.selects RX3 yX3_bestByAll yX3_bestByAll, Cond.code yX3_bestByAll cX3_bestByAll 3 (some .int), Cond.instanceMethod yX0_greatestWorthByAll, Cond.selects RX0 yX0_greatestWorthByAll yX0_greatestWorthByAll, Cond.code yX0_greatestWorthByAll cX0_greatestWorthByAll 5 (some .int), Cond.constant RX0 112 (1000000), Cond.methodLink RX0 113 yX0_worthOfLadder]
def wsL_law0_r18 : List Cond := [Cond.instanceMethod yX0_worthOfLadder, Cond.selects RX0 yX0_worthOfLadder yX0_worthOfLadder, Cond.code yX0_worthOfLadder cX0_worthOfLadder 9 (some .int), Cond.methodLink RX0 117 yX0_turnToNextLadder, Cond.instanceMethod yX0_turnToNextLadder, Cond.selects RX0 yX0_turnToNextLadder yX0_turnToNextLadder, Cond.code yX0_turnToNextLadder cX0_turnToNextLadder 5 (some .boolean), Cond.methodLink RL 137 yX4_bestByAll, Cond.instanceMethod yX4_bestByAll, Cond.selects RX4 yX4_bestByAll yX4_bestByAll, Cond.code yX4_bestByAll cX4_bestByAll 3 (some .int), Cond.methodLink RL 138 yL_planned, Cond.static yL_planned, Cond.codeWith yL_planned cL_planned 5 (some .int) [(0, 10, 13, 13)], Cond.methodLink RL 64 yX3_planned, Cond.instanceMethod yX3_planned, Cond.selects RX3 yX3_planned yX3_planned, Cond.code yX3_planned cX3_planned 4 (some .int), Cond.instanceMethod yX0_bestStepIn, Cond.selects RX0 yX0_bestStepIn yX0_bestStepIn, Cond.code yX0_bestStepIn cX0_bestStepIn 7 (some .int), Cond.methodLink RX0 90 yX0_lowestBestStep, Cond.instanceMethod yX0_lowestBestStep, Cond.selects RX0 yX0_lowestBestStep yX0_lowestBestStep]
def wsL_law0_r19 : List Cond := [Cond.code yX0_lowestBestStep cX0_lowestBestStep 6 (some .int), Cond.methodLink RL 140 yX4_planned, Cond.instanceMethod yX4_planned, Cond.selects RX4 yX4_planned yX4_planned, Cond.code yX4_planned cX4_planned 10 (some .int), Cond.methodLink RL 141 yL_bestLeaving, Cond.static yL_bestLeaving, Cond.codeWith yL_bestLeaving cL_bestLeaving 5 (some .int) [(0, 10, 13, 13)], Cond.methodLink RL 67 yX3_bestLeaving, Cond.instanceMethod yX3_bestLeaving, Cond.selects RX3 yX3_bestLeaving yX3_bestLeaving, Cond.code yX3_bestLeaving cX3_bestLeaving 4 (some .int), Cond.methodLink RL 143 yX4_bestLeaving, Cond.instanceMethod yX4_bestLeaving, Cond.selects RX4 yX4_bestLeaving yX4_bestLeaving, Cond.code yX4_bestLeaving cX4_bestLeaving 3 (some .int)]
def wsL_law0 : List Cond := (wsL_law0_r1 ++ (wsL_law0_r2 ++ (wsL_law0_r3 ++ (wsL_law0_r4 ++ (wsL_law0_r5 ++ (wsL_law0_r6 ++ (wsL_law0_r7 ++ (wsL_law0_r8 ++ (wsL_law0_r9 ++ (wsL_law0_r10 ++ (wsL_law0_r11 ++ (wsL_law0_r12 ++ (wsL_law0_r13 ++ (wsL_law0_r14 ++ (wsL_law0_r15 ++ (wsL_law0_r16 ++ (wsL_law0_r17 ++ (wsL_law0_r18 ++ wsL_law0_r19)))))))))))))))))) ++ wsX30 ++ wsX40 ++ wsX10 ++ wsX00 ++ wsX20 ++ ([] : List Cond)
def wsL_law : List Cond := wsL_law0 ++ (vx_atS RX3 109 "java/lang/IllegalArgumentException" ["java/lang/RuntimeException", "java/lang/Exception"]).filter goodWord ++ (vx_atS RX3 55 "java/lang/IllegalStateException" ["java/lang/RuntimeException", "java/lang/Exception"]).filter goodWord
set_option maxRecDepth 20000 in
theorem wsL_law_p1 : ∀ w ∈ wsL_law0_r1, w ∈ lw_tbl := fun w h => (goodIn_r wsL_law0_r1 [45, 46, 33, 517, 518, 37, 693, 47, 48, 49, 50, 51, 52, 53, 54, 34, 165, 92, 166, 94, 95, 35, 167, 137] (by decide +kernel) (by decide +kernel) w h).1
set_option maxRecDepth 20000 in
theorem wsL_law_p2 : ∀ w ∈ wsL_law0_r2, w ∈ lw_tbl := fun w h => (goodIn_r wsL_law0_r2 [36, 56, 57, 58, 91, 59, 62, 68, 97, 98, 99, 100, 101, 102, 103, 139, 140, 141, 142, 145, 150, 519, 520, 521] (by decide +kernel) (by decide +kernel) w h).1
set_option maxRecDepth 20000 in
theorem wsL_law_p3 : ∀ w ∈ wsL_law0_r3, w ∈ lw_tbl := fun w h => (goodIn_r wsL_law0_r3 [522, 523, 525, 526, 527, 530, 531, 532, 533, 535, 183, 184, 32, 185, 186, 187, 188, 189, 190, 191, 192, 193, 194, 41] (by decide +kernel) (by decide +kernel) w h).1
set_option maxRecDepth 20000 in
theorem wsL_law_p4 : ∀ w ∈ wsL_law0_r4, w ∈ lw_tbl := fun w h => (goodIn_r wsL_law0_r4 [263, 1, 264, 65, 74, 267, 2, 268, 147, 152, 570, 571, 572, 573, 524, 534, 574, 575, 576, 577, 579, 24, 580, 536] (by decide +kernel) (by decide +kernel) w h).1
set_option maxRecDepth 20000 in
theorem wsL_law_p5 : ∀ w ∈ wsL_law0_r5, w ∈ lw_tbl := fun w h => (goodIn_r wsL_law0_r5 [566, 567, 568, 569, 269, 270, 271, 272, 273, 274, 275, 276, 284, 42, 277, 278, 279, 282, 3, 283, 581, 582, 583, 584] (by decide +kernel) (by decide +kernel) w h).1
set_option maxRecDepth 20000 in
theorem wsL_law_p6 : ∀ w ∈ wsL_law0_r6, w ∈ lw_tbl := fun w h => (goodIn_r wsL_law0_r6 [585, 586, 587, 588, 590, 25, 591, 300, 301, 302, 303, 304, 305, 306, 307, 309, 4, 310, 592, 593, 594, 595, 596, 597] (by decide +kernel) (by decide +kernel) w h).1
set_option maxRecDepth 20000 in
theorem wsL_law_p7 : ∀ w ∈ wsL_law0_r7, w ∈ lw_tbl := fun w h => (goodIn_r wsL_law0_r7 [598, 311, 312, 313, 314, 315, 316, 317, 599, 600, 601, 602, 528, 529, 318, 319, 320, 321, 322, 323, 324, 325, 326, 327] (by decide +kernel) (by decide +kernel) w h).1
set_option maxRecDepth 20000 in
theorem wsL_law_p8 : ∀ w ∈ wsL_law0_r8, w ∈ lw_tbl := fun w h => (goodIn_r wsL_law0_r8 [328, 329, 330, 333, 5, 334, 603, 604, 605, 606, 607, 608, 609, 610, 612, 26, 613, 336, 337, 338, 339, 340, 341, 342] (by decide +kernel) (by decide +kernel) w h).1
set_option maxRecDepth 20000 in
theorem wsL_law_p9 : ∀ w ∈ wsL_law0_r9, w ∈ lw_tbl := fun w h => (goodIn_r wsL_law0_r9 [343, 345, 6, 346, 351, 7, 352, 353, 354, 43, 355, 614, 615, 616, 617, 618, 620, 27, 621, 357, 358, 359, 360, 361] (by decide +kernel) (by decide +kernel) w h).1
set_option maxRecDepth 20000 in
theorem wsL_law_p10 : ∀ w ∈ wsL_law0_r10, w ∈ lw_tbl := fun w h => (goodIn_r wsL_law0_r10 [362, 363, 622, 623, 624, 625, 366, 367, 368, 369, 370, 371, 372, 375, 8, 376, 377, 379, 9, 380, 386, 387, 388, 381] (by decide +kernel) (by decide +kernel) w h).1
set_option maxRecDepth 20000 in
theorem wsL_law_p11 : ∀ w ∈ wsL_law0_r11, w ∈ lw_tbl := fun w h => (goodIn_r wsL_law0_r11 [383, 10, 384, 385, 389, 391, 11, 392, 626, 627, 628, 629, 630, 632, 28, 633, 175, 176, 177, 178, 634, 635, 636, 637] (by decide +kernel) (by decide +kernel) w h).1
set_option maxRecDepth 20000 in
theorem wsL_law_p12 : ∀ w ∈ wsL_law0_r12, w ∈ lw_tbl := fun w h => (goodIn_r wsL_law0_r12 [638, 640, 29, 641, 393, 394, 395, 396, 397, 398, 399, 642, 643, 644, 645, 400, 401, 402, 403, 404, 405, 406, 646, 647] (by decide +kernel) (by decide +kernel) w h).1
set_option maxRecDepth 20000 in
theorem wsL_law_p13 : ∀ w ∈ wsL_law0_r13, w ∈ lw_tbl := fun w h => (goodIn_r wsL_law0_r13 [648, 649, 407, 408, 409, 410, 411, 412, 413, 650, 651, 652, 653, 414, 415, 416, 417, 418, 419, 420, 654, 655, 656, 657] (by decide +kernel) (by decide +kernel) w h).1
set_option maxRecDepth 20000 in
theorem wsL_law_p14 : ∀ w ∈ wsL_law0_r14, w ∈ lw_tbl := fun w h => (goodIn_r wsL_law0_r14 [179, 180, 181, 182, 658, 659, 660, 661, 421, 422, 423, 424, 425, 426, 427, 662, 663, 664, 665, 429, 430, 431, 432, 433] (by decide +kernel) (by decide +kernel) w h).1
set_option maxRecDepth 20000 in
theorem wsL_law_p15 : ∀ w ∈ wsL_law0_r15, w ∈ lw_tbl := fun w h => (goodIn_r wsL_law0_r15 [434, 435, 438, 12, 439, 440, 442, 441, 44, 104, 106, 107, 108, 444, 105, 109, 110, 448, 13, 449, 450, 452, 14, 453] (by decide +kernel) (by decide +kernel) w h).1
set_option maxRecDepth 20000 in
theorem wsL_law_p16 : ∀ w ∈ wsL_law0_r16, w ∈ lw_tbl := fun w h => (goodIn_r wsL_law0_r16 [111, 454, 455, 456, 457, 459, 15, 460, 473, 461, 463, 16, 464, 465, 467, 17, 468, 469, 471, 18, 472, 666, 667, 668] (by decide +kernel) (by decide +kernel) w h).1
set_option maxRecDepth 20000 in
theorem wsL_law_p17 : ∀ w ∈ wsL_law0_r17, w ∈ lw_tbl := fun w h => (goodIn_r wsL_law0_r17 [669, 670, 672, 30, 673, 674, 676, 31, 677, 678, 679, 680, 474, 475, 476, 477, 478, 479, 480, 484, 19, 485, 486, 487] (by decide +kernel) (by decide +kernel) w h).1
set_option maxRecDepth 20000 in
theorem wsL_law_p18 : ∀ w ∈ wsL_law0_r18, w ∈ lw_tbl := fun w h => (goodIn_r wsL_law0_r18 [489, 20, 490, 491, 493, 21, 494, 681, 682, 683, 684, 495, 496, 497, 498, 499, 500, 501, 504, 22, 505, 506, 508, 23] (by decide +kernel) (by decide +kernel) w h).1
set_option maxRecDepth 20000 in
theorem wsL_law_p19 : ∀ w ∈ wsL_law0_r19, w ∈ lw_tbl := fun w h => (goodIn_r wsL_law0_r19 [509, 685, 686, 687, 688, 510, 511, 512, 513, 514, 515, 516, 689, 690, 691, 692] (by decide +kernel) (by decide +kernel) w h).1
set_option maxRecDepth 20000 in
theorem wsL_law_qwsX00 : ∀ w ∈ wsX00, w ∈ lw_tbl := fun w h => (goodIn_r wsX00 [112, 114, 116, 118, 120, 122, 124, 126, 128, 130, 132, 134] (by decide +kernel) (by decide +kernel) w h).1
set_option maxRecDepth 20000 in
theorem wsL_law_qwsX10 : ∀ w ∈ wsX10, w ∈ lw_tbl := fun w h => (goodIn_r wsX10 [76, 78, 80, 82, 84, 86, 88] (by decide +kernel) (by decide +kernel) w h).1
set_option maxRecDepth 20000 in
theorem wsL_law_qwsX20 : ∀ w ∈ wsX20, w ∈ lw_tbl := fun w h => (goodIn_r wsX20 [154, 156, 158, 160, 162] (by decide +kernel) (by decide +kernel) w h).1
set_option maxRecDepth 20000 in
theorem wsL_law_qwsX30 : ∀ w ∈ wsX30, w ∈ lw_tbl := fun w h => (goodIn_r wsX30 [168, 170, 172] (by decide +kernel) (by decide +kernel) w h).1
set_option maxRecDepth 20000 in
theorem wsL_law_qwsX40 : ∀ w ∈ wsX40, w ∈ lw_tbl := fun w h => (goodIn_r wsX40 [537, 539, 541, 543, 545, 547, 549, 551, 553, 555, 557, 559, 561, 563] (by decide +kernel) (by decide +kernel) w h).1
theorem mem_app2 {α : Type} {a b : List α} {P : α → Prop} (h1 : ∀ w ∈ a, P w) (h2 : ∀ w ∈ b, P w) : ∀ w ∈ a ++ b, P w := fun w h => (List.mem_append.mp h).elim (h1 w) (h2 w)
theorem wsL_law_in0 : ∀ w ∈ wsL_law0, w ∈ lw_tbl := by
  unfold wsL_law0
  exact mem_app2 (mem_app2 (mem_app2 (mem_app2 (mem_app2 (mem_app2 (mem_app2 wsL_law_p1 (mem_app2 wsL_law_p2 (mem_app2 wsL_law_p3 (mem_app2 wsL_law_p4 (mem_app2 wsL_law_p5 (mem_app2 wsL_law_p6 (mem_app2 wsL_law_p7 (mem_app2 wsL_law_p8 (mem_app2 wsL_law_p9 (mem_app2 wsL_law_p10 (mem_app2 wsL_law_p11 (mem_app2 wsL_law_p12 (mem_app2 wsL_law_p13 (mem_app2 wsL_law_p14 (mem_app2 wsL_law_p15 (mem_app2 wsL_law_p16 (mem_app2 wsL_law_p17 (mem_app2 wsL_law_p18 wsL_law_p19)))))))))))))))))) wsL_law_qwsX30) wsL_law_qwsX40) wsL_law_qwsX10) wsL_law_qwsX00) wsL_law_qwsX20) (fun w h => absurd h List.not_mem_nil)
theorem wsL_law_x0 : ∀ w ∈ (vx_atS RX3 109 "java/lang/IllegalArgumentException" ["java/lang/RuntimeException", "java/lang/Exception"]).filter goodWord, w ∈ lw_tbl := by decide +kernel
theorem wsL_law_x1 : ∀ w ∈ (vx_atS RX3 55 "java/lang/IllegalStateException" ["java/lang/RuntimeException", "java/lang/Exception"]).filter goodWord, w ∈ lw_tbl := by decide +kernel
theorem wsL_law_in : ∀ w ∈ wsL_law, w ∈ lw_tbl := fun w h => (List.mem_append.mp h).elim (fun h => (List.mem_append.mp h).elim (fun h => wsL_law_in0 w h) (fun h => wsL_law_x0 w h)) (fun h => wsL_law_x1 w h)
theorem inlX0 : ∀ w ∈ wsX00, w ∈ wsL_law := fun _ h => List.mem_append_left _ (List.mem_append_left _ (List.mem_append_left _ (List.mem_append_left _ (List.mem_append_right _ h))))
theorem inX0 : ∀ w ∈ wsX00, w ∈ lw_tbl := fun w h => wsL_law_in w (inlX0 w h)
theorem inlX1 : ∀ w ∈ wsX10, w ∈ wsL_law := fun _ h => List.mem_append_left _ (List.mem_append_left _ (List.mem_append_left _ (List.mem_append_left _ (List.mem_append_left _ (List.mem_append_right _ h)))))
theorem inX1 : ∀ w ∈ wsX10, w ∈ lw_tbl := fun w h => wsL_law_in w (inlX1 w h)
theorem inlX2 : ∀ w ∈ wsX20, w ∈ wsL_law := fun _ h => List.mem_append_left _ (List.mem_append_left _ (List.mem_append_left _ (List.mem_append_right _ h)))
theorem inX2 : ∀ w ∈ wsX20, w ∈ lw_tbl := fun w h => wsL_law_in w (inlX2 w h)
theorem inlX3 : ∀ w ∈ wsX30, w ∈ wsL_law := fun _ h => List.mem_append_left _ (List.mem_append_left _ (List.mem_append_left _ (List.mem_append_left _ (List.mem_append_left _ (List.mem_append_left _ (List.mem_append_left _ (List.mem_append_right _ h)))))))
theorem inX3 : ∀ w ∈ wsX30, w ∈ lw_tbl := fun w h => wsL_law_in w (inlX3 w h)
theorem inlX4 : ∀ w ∈ wsX40, w ∈ wsL_law := fun _ h => List.mem_append_left _ (List.mem_append_left _ (List.mem_append_left _ (List.mem_append_left _ (List.mem_append_left _ (List.mem_append_left _ (List.mem_append_right _ h))))))
theorem inX4 : ∀ w ∈ wsX40, w ∈ lw_tbl := fun w h => wsL_law_in w (inlX4 w h)
theorem inJ9 : ∀ w ∈ wsJ90, w ∈ lw_tbl := by decide +kernel
theorem inJ0 : ∀ w ∈ wsJ00, w ∈ lw_tbl := by decide +kernel
theorem inJ10 : ∀ w ∈ wsJ100, w ∈ lw_tbl := by decide +kernel
set_option maxRecDepth 20000 in
theorem ggX0_lookAt_X2_waitFrom : GoodIn wsX0_lookAt wsX2_waitFrom := goodIn_r _ [21, 22, 23, 24, 13, 25, 49, 50, 51, 52, 53] (by decide +kernel) (by decide +kernel)
set_option maxRecDepth 20000 in
theorem gX0_lookAt_X2_waitFrom_n57 : GoodIn wsX0_lookAt (wsX2_waitFrom) := ggX0_lookAt_X2_waitFrom
set_option maxRecDepth 20000 in
theorem ggX0_lookAt_X2_wholeStock : GoodIn wsX0_lookAt wsX2_wholeStock := goodIn_r _ [28, 29, 49, 50, 51, 52, 53] (by decide +kernel) (by decide +kernel)
set_option maxRecDepth 20000 in
theorem gX0_lookAt_X2_wholeStock_n75 : GoodIn wsX0_lookAt (wsX2_wholeStock) := ggX0_lookAt_X2_wholeStock
set_option maxRecDepth 20000 in
theorem ggX0_greatestWorth_X0_tellWorths : GoodIn wsX0_greatestWorth wsX0_tellWorths := goodIn_r _ [9, 10, 11, 3, 2, 4, 12, 13, 14, 8, 15, 16, 17, 18, 19, 20, 21, 22, 23, 24, 25, 26, 27, 28, 29, 30, 31, 32, 33, 34, 35, 36, 37, 38, 39, 40, 41, 42, 43, 44, 45, 46, 47, 48, 49, 50, 51, 52, 53, 54] (by decide +kernel) (by decide +kernel)
set_option maxRecDepth 20000 in
theorem gX0_greatestWorth_X0_tellWorths : GoodIn wsX0_greatestWorth (wsV RX0 82 RX0 yX0_tellWorths wsX0_tellWorths) := goodIn_app (goodIn_of _ (by decide +kernel)) ggX0_greatestWorth_X0_tellWorths
set_option maxRecDepth 20000 in
theorem ggX0_greatestWorth_X0_worthOfKeeping : GoodIn wsX0_greatestWorth wsX0_worthOfKeeping := goodIn_r _ [32, 11, 33, 34, 22, 35, 36, 37, 38, 39, 40, 8, 41, 12, 10, 42, 13, 14, 15, 43, 44, 45, 46, 47, 48, 49, 50, 51, 52, 53, 54] (by decide +kernel) (by decide +kernel)
set_option maxRecDepth 20000 in
theorem gX0_greatestWorth_X0_worthOfKeeping : GoodIn wsX0_greatestWorth (wsV RX0 86 RX0 yX0_worthOfKeeping wsX0_worthOfKeeping) := goodIn_app (goodIn_of _ (by decide +kernel)) ggX0_greatestWorth_X0_worthOfKeeping
set_option maxRecDepth 20000 in
theorem ggX0_bestStepIn_X0_tellWorths : GoodIn wsX0_bestStepIn wsX0_tellWorths := goodIn_r _ [15, 16, 17, 3, 1, 2, 18, 19, 20, 14, 21, 22, 23, 24, 25, 26, 27, 9, 28, 29, 30, 31, 32, 5, 33, 34, 35, 36, 7, 8, 10, 6, 37, 38, 39, 40, 41, 42, 47, 48, 49, 50, 51, 52, 53, 54, 55, 56, 57, 58] (by decide +kernel) (by decide +kernel)
set_option maxRecDepth 20000 in
theorem gX0_bestStepIn_X0_tellWorths : GoodIn wsX0_bestStepIn (wsV RX0 82 RX0 yX0_tellWorths wsX0_tellWorths) := goodIn_app (goodIn_of _ (by decide +kernel)) ggX0_bestStepIn_X0_tellWorths
set_option maxRecDepth 20000 in
theorem ggX0_bestStepIn_X0_lowestBestStep : GoodIn wsX0_bestStepIn wsX0_lowestBestStep := goodIn_r _ [46, 38, 39, 40, 14, 41, 17, 18, 16, 42, 19, 20, 21, 29, 30, 31, 32, 5, 33, 34, 35, 36, 7, 8, 9, 10, 6, 37, 47, 48, 49, 50, 51, 52, 53, 54, 55, 56, 57, 58] (by decide +kernel) (by decide +kernel)
set_option maxRecDepth 20000 in
theorem gX0_bestStepIn_X0_lowestBestStep : GoodIn wsX0_bestStepIn (wsV RX0 90 RX0 yX0_lowestBestStep wsX0_lowestBestStep) := goodIn_app (goodIn_of _ (by decide +kernel)) ggX0_bestStepIn_X0_lowestBestStep
set_option maxRecDepth 20000 in
theorem ggX0_tellWorths_X0_placeOf : GoodIn wsX0_tellWorths wsX0_placeOf := goodIn_r _ [10] (by decide +kernel) (by decide +kernel)
set_option maxRecDepth 20000 in
theorem gX0_tellWorths_X0_placeOf : GoodIn wsX0_tellWorths (va_wsS RX0 97 yX0_placeOf wsX0_placeOf) := goodIn_app (goodIn_of _ (by decide +kernel)) ggX0_tellWorths_X0_placeOf
set_option maxRecDepth 20000 in
theorem ggX0_tellWorths_X0_worthOfChoosing : GoodIn wsX0_tellWorths wsX0_worthOfChoosing := goodIn_r _ [14, 15, 16, 17, 18, 19, 20, 21, 9, 22, 23, 24, 25, 26, 27, 2, 28, 29, 30, 31, 32, 33, 34, 35, 36, 6, 1, 37, 7, 8, 10, 38, 39, 40, 41, 42, 43, 44, 45, 46, 47, 48, 49] (by decide +kernel) (by decide +kernel)
set_option maxRecDepth 20000 in
theorem gX0_tellWorths_X0_worthOfChoosing : GoodIn wsX0_tellWorths (wsV RX0 100 RX0 yX0_worthOfChoosing wsX0_worthOfChoosing) := goodIn_app (goodIn_of _ (by decide +kernel)) ggX0_tellWorths_X0_worthOfChoosing
set_option maxRecDepth 20000 in
theorem ggX0_worthOfChoosing_X0_worthOfTaking : GoodIn wsX0_worthOfChoosing wsX0_worthOfTaking := goodIn_r _ [9, 10, 11, 12, 13, 8, 14, 15, 16, 17, 3, 18, 19, 20, 21, 22, 23, 24, 25, 26, 27, 28, 29, 30, 31, 32, 33, 34, 35, 36, 37, 38, 39, 40, 41, 42] (by decide +kernel) (by decide +kernel)
set_option maxRecDepth 20000 in
theorem gX0_worthOfChoosing_X0_worthOfTaking : GoodIn wsX0_worthOfChoosing (wsV RX0 103 RX0 yX0_worthOfTaking wsX0_worthOfTaking) := goodIn_app (goodIn_of _ (by decide +kernel)) ggX0_worthOfChoosing_X0_worthOfTaking
set_option maxRecDepth 20000 in
theorem ggX0_lowestBestStep_X0_worthFrom : GoodIn wsX0_lowestBestStep wsX0_worthFrom := goodIn_r _ [5, 6, 7, 8, 9, 10, 11, 4, 12, 28, 29, 30, 31, 32, 33, 34, 35, 36, 37, 38, 39] (by decide +kernel) (by decide +kernel)
set_option maxRecDepth 20000 in
theorem gX0_lowestBestStep_X0_worthFrom : GoodIn wsX0_lowestBestStep (wsV RX0 109 RX0 yX0_worthFrom wsX0_worthFrom) := goodIn_app (goodIn_of _ (by decide +kernel)) ggX0_lowestBestStep_X0_worthFrom
set_option maxRecDepth 20000 in
theorem ggX0_lowestBestStep_X0_worthOfTaking : GoodIn wsX0_lowestBestStep wsX0_worthOfTaking := goodIn_r _ [16, 17, 18, 19, 20, 4, 21, 6, 22, 23, 24, 25, 26, 27, 1, 2, 3, 5, 7, 8, 9, 10, 11, 12, 28, 29, 30, 31, 32, 33, 34, 35, 36, 37, 38, 39] (by decide +kernel) (by decide +kernel)
set_option maxRecDepth 20000 in
theorem gX0_lowestBestStep_X0_worthOfTaking : GoodIn wsX0_lowestBestStep (wsV RX0 103 RX0 yX0_worthOfTaking wsX0_worthOfTaking) := goodIn_app (goodIn_of _ (by decide +kernel)) ggX0_lowestBestStep_X0_worthOfTaking
set_option maxRecDepth 20000 in
theorem ggX0_worthOfTaking_X0_worthOfKeeping : GoodIn wsX0_worthOfTaking wsX0_worthOfKeeping := goodIn_r _ [6, 7, 8, 9, 10, 11, 12, 13, 14, 15, 16, 5, 17, 18, 19, 20, 21, 22, 23, 24, 25, 26, 27, 28, 29, 30, 31, 32, 33, 34, 35] (by decide +kernel) (by decide +kernel)
set_option maxRecDepth 20000 in
theorem gX0_worthOfTaking_X0_worthOfKeeping : GoodIn wsX0_worthOfTaking (wsV RX0 86 RX0 yX0_worthOfKeeping wsX0_worthOfKeeping) := goodIn_app (goodIn_of _ (by decide +kernel)) ggX0_worthOfTaking_X0_worthOfKeeping
set_option maxRecDepth 20000 in
theorem ggX0_worthOfKeeping_X0_worthFrom : GoodIn wsX0_worthOfKeeping wsX0_worthFrom := goodIn_r _ [12, 1, 13, 14, 15, 16, 17, 11, 18, 19, 20, 21, 22, 23, 24, 25, 26, 27, 28, 29, 30] (by decide +kernel) (by decide +kernel)
set_option maxRecDepth 20000 in
theorem gX0_worthOfKeeping_X0_worthFrom : GoodIn wsX0_worthOfKeeping (wsV RX0 109 RX0 yX0_worthFrom wsX0_worthFrom) := goodIn_app (goodIn_of _ (by decide +kernel)) ggX0_worthOfKeeping_X0_worthFrom
set_option maxRecDepth 20000 in
theorem ggX0_worthFrom_X0_placeOf : GoodIn wsX0_worthFrom wsX0_placeOf := goodIn_r _ [8] (by decide +kernel) (by decide +kernel)
set_option maxRecDepth 20000 in
theorem gX0_worthFrom_X0_placeOf : GoodIn wsX0_worthFrom (va_wsS RX0 97 yX0_placeOf wsX0_placeOf) := goodIn_app (goodIn_of _ (by decide +kernel)) ggX0_worthFrom_X0_placeOf
set_option maxRecDepth 20000 in
theorem ggX0_greatestWorthByAll_X0_worthOfLadder : GoodIn wsX0_greatestWorthByAll wsX0_worthOfLadder := goodIn_r _ [17, 8, 18, 19, 7, 2, 20, 21, 3, 4, 5, 6, 22, 23, 28, 29, 30, 31, 32, 33, 34, 35, 36, 37, 38, 39] (by decide +kernel) (by decide +kernel)
set_option maxRecDepth 20000 in
theorem gX0_greatestWorthByAll_X0_worthOfLadder : GoodIn wsX0_greatestWorthByAll (wsV RX0 113 RX0 yX0_worthOfLadder wsX0_worthOfLadder) := goodIn_app (goodIn_of _ (by decide +kernel)) ggX0_greatestWorthByAll_X0_worthOfLadder
set_option maxRecDepth 20000 in
theorem ggX0_greatestWorthByAll_X0_turnToNextLadder : GoodIn wsX0_greatestWorthByAll wsX0_turnToNextLadder := goodIn_r _ [27, 7, 28, 29, 30, 31, 32, 33, 34, 35, 36, 37, 38, 39] (by decide +kernel) (by decide +kernel)
set_option maxRecDepth 20000 in
theorem gX0_greatestWorthByAll_X0_turnToNextLadder : GoodIn wsX0_greatestWorthByAll (wsV RX0 117 RX0 yX0_turnToNextLadder wsX0_turnToNextLadder) := goodIn_app (goodIn_of _ (by decide +kernel)) ggX0_greatestWorthByAll_X0_turnToNextLadder
set_option maxRecDepth 20000 in
theorem ggX2_salesAt_X2_sizesInStock : GoodIn wsX2_salesAt wsX2_sizesInStock := goodIn_r _ [10, 11, 16, 17, 18, 19, 20] (by decide +kernel) (by decide +kernel)
set_option maxRecDepth 20000 in
theorem gX2_salesAt_X2_sizesInStock : GoodIn wsX2_salesAt (wsV RX2 34 RX2 yX2_sizesInStock wsX2_sizesInStock) := goodIn_app (goodIn_of _ (by decide +kernel)) ggX2_salesAt_X2_sizesInStock
set_option maxRecDepth 20000 in
theorem ggX2_salesAt_X2_wholeStock : GoodIn wsX2_salesAt wsX2_wholeStock := goodIn_r _ [15, 11, 16, 17, 18, 19, 20] (by decide +kernel) (by decide +kernel)
set_option maxRecDepth 20000 in
theorem gX2_salesAt_X2_wholeStock : GoodIn wsX2_salesAt (wsV RX2 38 RX2 yX2_wholeStock wsX2_wholeStock) := goodIn_app (goodIn_of _ (by decide +kernel)) ggX2_salesAt_X2_wholeStock
set_option maxRecDepth 20000 in
theorem ggX2_sellForAWeek_X2_salesAt : GoodIn wsX2_sellForAWeek wsX2_salesAt := goodIn_r _ [8, 9, 10, 11, 12, 13, 14, 15, 16, 7, 17, 2, 18, 19, 20, 21, 26, 27, 28, 29, 30] (by decide +kernel) (by decide +kernel)
set_option maxRecDepth 20000 in
theorem gX2_sellForAWeek_X2_salesAt : GoodIn wsX2_sellForAWeek (wsV RX2 44 RX2 yX2_salesAt wsX2_salesAt) := goodIn_app (goodIn_of _ (by decide +kernel)) ggX2_sellForAWeek_X2_salesAt
set_option maxRecDepth 20000 in
theorem ggX2_sellForAWeek_X2_fullestSize : GoodIn wsX2_sellForAWeek wsX2_fullestSize := goodIn_r _ [25, 2, 26, 27, 28, 29, 30] (by decide +kernel) (by decide +kernel)
set_option maxRecDepth 20000 in
theorem gX2_sellForAWeek_X2_fullestSize : GoodIn wsX2_sellForAWeek (wsV RX2 48 RX2 yX2_fullestSize wsX2_fullestSize) := goodIn_app (goodIn_of _ (by decide +kernel)) ggX2_sellForAWeek_X2_fullestSize
set_option maxRecDepth 20000 in
theorem ggX3_init_X1_init : GoodIn wsX3_init wsX1_init := goodIn_r _ [17, 18, 2, 3, 19, 20, 21, 22, 36, 37, 38, 39, 40, 41, 42] (by decide +kernel) (by decide +kernel)
set_option maxRecDepth 20000 in
theorem gX3_init_X1_init_n11 : GoodIn wsX3_init (wsX1_init) := ggX3_init_X1_init
set_option maxRecDepth 20000 in
theorem ggX3_init_X0_init : GoodIn wsX3_init wsX0_init := goodIn_r _ [24, 25, 2, 3, 19, 26, 27, 28, 29, 46, 47, 48, 49, 50, 51, 52, 53, 54, 55, 56, 57] (by decide +kernel) (by decide +kernel)
set_option maxRecDepth 20000 in
theorem gX3_init_X0_init_n24 : GoodIn wsX3_init (wsX0_init) := ggX3_init_X0_init
set_option maxRecDepth 20000 in
theorem ggX3_init_X2_init : GoodIn wsX3_init wsX2_init := goodIn_r _ [31, 32, 2, 3, 19, 33, 34, 35, 58, 59, 60, 61, 62] (by decide +kernel) (by decide +kernel)
set_option maxRecDepth 20000 in
theorem gX3_init_X2_init_n29 : GoodIn wsX3_init (wsX2_init) := ggX3_init_X2_init
set_option maxRecDepth 20000 in
theorem ggX3_begin_X3_requireWithin : GoodIn wsX3_begin wsX3_requireWithin := goodIn_ca (goodIn_r _ [6, 7, 8] (by decide +kernel) (by decide +kernel)) (goodIn_sub (fun _ h => List.mem_cons_of_mem _ (List.mem_append_right _ h)) (by decide +kernel))
set_option maxRecDepth 20000 in
theorem gX3_begin_X3_requireWithin : GoodIn wsX3_begin (va_wsS RX3 30 yX3_requireWithin wsX3_requireWithin) := goodIn_app (goodIn_of _ (by decide +kernel)) ggX3_begin_X3_requireWithin
set_option maxRecDepth 20000 in
theorem ggX3_begin_X1_startAnew : GoodIn wsX3_begin wsX1_startAnew := goodIn_r _ [12, 13, 14, 15, 26, 27, 28, 29, 30, 31, 32] (by decide +kernel) (by decide +kernel)
set_option maxRecDepth 20000 in
theorem gX3_begin_X1_startAnew_n38 : GoodIn wsX3_begin (wsX1_startAnew) := ggX3_begin_X1_startAnew
set_option maxRecDepth 20000 in
theorem ggX3_begin_X2_startAnew : GoodIn wsX3_begin wsX2_startAnew := goodIn_r _ [19, 20, 21, 22, 33, 34, 35, 36, 37] (by decide +kernel) (by decide +kernel)
set_option maxRecDepth 20000 in
theorem gX3_begin_X2_startAnew_n42 : GoodIn wsX3_begin (wsX2_startAnew) := ggX3_begin_X2_startAnew
set_option maxRecDepth 20000 in
theorem ggX3_setPrice_X3_requireStep : GoodIn wsX3_setPrice wsX3_requireStep := goodIn_ca (goodIn_r _ [7, 8, 9, 6, 10, 11, 12] (by decide +kernel) (by decide +kernel)) (goodIn_sub (fun _ h => List.mem_cons_of_mem _ (List.mem_append_right _ h)) (by decide +kernel))
set_option maxRecDepth 20000 in
theorem gX3_setPrice_X3_requireStep : GoodIn wsX3_setPrice (va_wsS RX3 44 yX3_requireStep wsX3_requireStep) := goodIn_app (goodIn_of _ (by decide +kernel)) ggX3_setPrice_X3_requireStep
set_option maxRecDepth 20000 in
theorem ggX3_setPrice_X3_requireWithin : GoodIn wsX3_setPrice wsX3_requireWithin := goodIn_ca (goodIn_r _ [10, 11, 12] (by decide +kernel) (by decide +kernel)) (goodIn_sub (fun _ h => List.mem_cons_of_mem _ (List.mem_append_right _ h)) (by decide +kernel))
set_option maxRecDepth 20000 in
theorem gX3_setPrice_X3_requireWithin : GoodIn wsX3_setPrice (va_wsS RX3 30 yX3_requireWithin wsX3_requireWithin) := goodIn_app (goodIn_of _ (by decide +kernel)) ggX3_setPrice_X3_requireWithin
set_option maxRecDepth 20000 in
theorem ggX3_setPrice_X1_keepsLadderDown : GoodIn wsX3_setPrice wsX1_keepsLadderDown := goodIn_r _ [16, 17, 21, 22, 23, 24, 25, 26, 27] (by decide +kernel) (by decide +kernel)
set_option maxRecDepth 20000 in
theorem gX3_setPrice_X1_keepsLadderDown_n47 : GoodIn wsX3_setPrice (wsX1_keepsLadderDown) := ggX3_setPrice_X1_keepsLadderDown
set_option maxRecDepth 20000 in
theorem ggX3_setDemand_X3_storeOf : GoodIn wsX3_setDemand wsX3_storeOf := goodIn_ca (goodIn_r _ [5, 6, 7, 8, 4, 9, 10, 11, 20, 21, 22] (by decide +kernel) (by decide +kernel)) (goodIn_sub (fun _ h => List.mem_cons_of_mem _ (List.mem_append_right _ h)) (by decide +kernel))
set_option maxRecDepth 20000 in
theorem gX3_setDemand_X3_storeOf : GoodIn wsX3_setDemand (wsV RX3 62 RX3 yX3_storeOf wsX3_storeOf) := goodIn_app (goodIn_of _ (by decide +kernel)) ggX3_setDemand_X3_storeOf
set_option maxRecDepth 20000 in
theorem ggX3_setDemand_X3_requireStep : GoodIn wsX3_setDemand wsX3_requireStep := goodIn_ca (goodIn_r _ [14, 7, 8, 4, 9, 10, 11] (by decide +kernel) (by decide +kernel)) (goodIn_sub (fun _ h => List.mem_cons_of_mem _ (List.mem_append_right _ h)) (by decide +kernel))
set_option maxRecDepth 20000 in
theorem gX3_setDemand_X3_requireStep : GoodIn wsX3_setDemand (va_wsS RX3 44 yX3_requireStep wsX3_requireStep) := goodIn_app (goodIn_of _ (by decide +kernel)) ggX3_setDemand_X3_requireStep
set_option maxRecDepth 20000 in
theorem ggX3_setDemand_X3_requireWithin : GoodIn wsX3_setDemand wsX3_requireWithin := goodIn_ca (goodIn_r _ [9, 10, 11] (by decide +kernel) (by decide +kernel)) (goodIn_sub (fun _ h => List.mem_cons_of_mem _ (List.mem_append_right _ h)) (by decide +kernel))
set_option maxRecDepth 20000 in
theorem gX3_setDemand_X3_requireWithin : GoodIn wsX3_setDemand (va_wsS RX3 30 yX3_requireWithin wsX3_requireWithin) := goodIn_app (goodIn_of _ (by decide +kernel)) ggX3_setDemand_X3_requireWithin
set_option maxRecDepth 20000 in
theorem ggX3_setRules_X3_requireWithin : GoodIn wsX3_setRules wsX3_requireWithin := goodIn_ca (goodIn_r _ [5, 6, 7] (by decide +kernel) (by decide +kernel)) (goodIn_sub (fun _ h => List.mem_cons_of_mem _ (List.mem_append_right _ h)) (by decide +kernel))
set_option maxRecDepth 20000 in
theorem gX3_setRules_X3_requireWithin : GoodIn wsX3_setRules (va_wsS RX3 30 yX3_requireWithin wsX3_requireWithin) := goodIn_app (goodIn_of _ (by decide +kernel)) ggX3_setRules_X3_requireWithin
set_option maxRecDepth 20000 in
theorem ggX3_put_X3_storeOf : GoodIn wsX3_put wsX3_storeOf := goodIn_ca (goodIn_r _ [5, 6, 7, 8, 4, 9, 10, 11, 30, 31, 32] (by decide +kernel) (by decide +kernel)) (goodIn_sub (fun _ h => List.mem_cons_of_mem _ (List.mem_append_left _ (List.mem_append_right _ h))) (by decide +kernel))
set_option maxRecDepth 20000 in
theorem gX3_put_X3_storeOf : GoodIn wsX3_put (wsV RX3 62 RX3 yX3_storeOf wsX3_storeOf) := goodIn_app (goodIn_of _ (by decide +kernel)) ggX3_put_X3_storeOf
set_option maxRecDepth 20000 in
theorem ggX3_put_X3_requireSize : GoodIn wsX3_put wsX3_requireSize := goodIn_ca (goodIn_r _ [14, 7, 8, 4, 9, 10, 11] (by decide +kernel) (by decide +kernel)) (goodIn_sub (fun _ h => List.mem_cons_of_mem _ (List.mem_append_left _ (List.mem_append_right _ h))) (by decide +kernel))
set_option maxRecDepth 20000 in
theorem gX3_put_X3_requireSize : GoodIn wsX3_put (va_wsS RX3 78 yX3_requireSize wsX3_requireSize) := goodIn_app (goodIn_of _ (by decide +kernel)) ggX3_put_X3_requireSize
set_option maxRecDepth 20000 in
theorem ggX3_put_X3_requireWithin : GoodIn wsX3_put wsX3_requireWithin := goodIn_ca (goodIn_r _ [9, 10, 11] (by decide +kernel) (by decide +kernel)) (goodIn_sub (fun _ h => List.mem_cons_of_mem _ (List.mem_append_left _ (List.mem_append_right _ h))) (by decide +kernel))
set_option maxRecDepth 20000 in
theorem gX3_put_X3_requireWithin : GoodIn wsX3_put (va_wsS RX3 30 yX3_requireWithin wsX3_requireWithin) := goodIn_app (goodIn_of _ (by decide +kernel)) ggX3_put_X3_requireWithin
set_option maxRecDepth 20000 in
theorem ggX3_put_X3_requireRoomFor : GoodIn wsX3_put wsX3_requireRoomFor := goodIn_ca (goodIn_r _ [17, 18, 19, 20, 21, 22, 23, 24, 25, 26, 27, 28, 29] (by decide +kernel) (by decide +kernel)) (goodIn_sub (fun _ h => List.mem_cons_of_mem _ (List.mem_append_right _ h)) (by decide +kernel))
set_option maxRecDepth 20000 in
theorem gX3_put_X3_requireRoomFor : GoodIn wsX3_put (va_wsS RX3 81 yX3_requireRoomFor wsX3_requireRoomFor) := goodIn_app (goodIn_of _ (by decide +kernel)) ggX3_put_X3_requireRoomFor
set_option maxRecDepth 20000 in
theorem ggX3_markDown_X3_storeOf : GoodIn wsX3_markDown wsX3_storeOf := goodIn_ca (goodIn_r _ [8, 9, 10, 11, 7, 12, 13, 14, 36, 37, 38] (by decide +kernel) (by decide +kernel)) (goodIn_sub (fun _ h => List.mem_cons_of_mem _ (List.mem_append_right _ h)) (by decide +kernel))
set_option maxRecDepth 20000 in
theorem gX3_markDown_X3_storeOf : GoodIn wsX3_markDown (wsV RX3 62 RX3 yX3_storeOf wsX3_storeOf) := goodIn_app (goodIn_of _ (by decide +kernel)) ggX3_markDown_X3_storeOf
set_option maxRecDepth 20000 in
theorem ggX3_markDown_X3_requireStep : GoodIn wsX3_markDown wsX3_requireStep := goodIn_ca (goodIn_r _ [17, 10, 11, 7, 12, 13, 14] (by decide +kernel) (by decide +kernel)) (goodIn_sub (fun _ h => List.mem_cons_of_mem _ (List.mem_append_right _ h)) (by decide +kernel))
set_option maxRecDepth 20000 in
theorem gX3_markDown_X3_requireStep : GoodIn wsX3_markDown (va_wsS RX3 44 yX3_requireStep wsX3_requireStep) := goodIn_app (goodIn_of _ (by decide +kernel)) ggX3_markDown_X3_requireStep
set_option maxRecDepth 20000 in
theorem ggX3_markDown_X3_requireSeasonOn : GoodIn wsX3_markDown wsX3_requireSeasonOn := goodIn_ca (goodIn_r _ [21, 1, 2, 3, 36, 37, 38, 39, 40, 41, 42, 43, 44, 45] (by decide +kernel) (by decide +kernel)) (goodIn_sub (fun _ h => List.mem_cons_of_mem _ (List.mem_append_left _ (List.mem_append_right _ h))) (by decide +kernel))
set_option maxRecDepth 20000 in
theorem gX3_markDown_X3_requireSeasonOn : GoodIn wsX3_markDown (wsV RX3 88 RX3 yX3_requireSeasonOn wsX3_requireSeasonOn) := goodIn_app (goodIn_of _ (by decide +kernel)) ggX3_markDown_X3_requireSeasonOn
set_option maxRecDepth 20000 in
theorem ggX3_markDown_X2_waitFrom : GoodIn wsX3_markDown wsX2_waitFrom := goodIn_r _ [25, 26, 27, 28, 29, 30, 31, 32, 33, 34, 35] (by decide +kernel) (by decide +kernel)
set_option maxRecDepth 20000 in
theorem gX3_markDown_X2_waitFrom_n96 : GoodIn wsX3_markDown (wsX2_waitFrom) := ggX3_markDown_X2_waitFrom
set_option maxRecDepth 20000 in
theorem ggX3_move_X3_storeOf : GoodIn wsX3_move wsX3_storeOf := goodIn_ca (goodIn_r _ [10, 11, 12, 13, 9, 14, 1, 2, 35, 36, 37] (by decide +kernel) (by decide +kernel)) (goodIn_sub (fun _ h => List.mem_cons_of_mem _ (List.mem_append_left _ (List.mem_append_right _ h))) (by decide +kernel))
set_option maxRecDepth 20000 in
theorem gX3_move_X3_storeOf : GoodIn wsX3_move (wsV RX3 62 RX3 yX3_storeOf wsX3_storeOf) := goodIn_app (goodIn_of _ (by decide +kernel)) ggX3_move_X3_storeOf
set_option maxRecDepth 20000 in
theorem ggX3_move_X3_requireSize : GoodIn wsX3_move wsX3_requireSize := goodIn_ca (goodIn_r _ [17, 12, 13, 9, 14, 1, 2] (by decide +kernel) (by decide +kernel)) (goodIn_sub (fun _ h => List.mem_cons_of_mem _ (List.mem_append_left _ (List.mem_append_right _ h))) (by decide +kernel))
set_option maxRecDepth 20000 in
theorem gX3_move_X3_requireSize : GoodIn wsX3_move (va_wsS RX3 78 yX3_requireSize wsX3_requireSize) := goodIn_app (goodIn_of _ (by decide +kernel)) ggX3_move_X3_requireSize
set_option maxRecDepth 20000 in
theorem ggX3_move_X3_requireWithin : GoodIn wsX3_move wsX3_requireWithin := goodIn_ca (goodIn_r _ [14, 1, 2] (by decide +kernel) (by decide +kernel)) (goodIn_sub (fun _ h => List.mem_cons_of_mem _ (List.mem_append_left _ (List.mem_append_right _ h))) (by decide +kernel))
set_option maxRecDepth 20000 in
theorem gX3_move_X3_requireWithin : GoodIn wsX3_move (va_wsS RX3 30 yX3_requireWithin wsX3_requireWithin) := goodIn_app (goodIn_of _ (by decide +kernel)) ggX3_move_X3_requireWithin
set_option maxRecDepth 20000 in
theorem ggX3_move_X3_requireSeasonOn : GoodIn wsX3_move wsX3_requireSeasonOn := goodIn_ca (goodIn_r _ [21, 3, 4, 5, 35, 36, 37, 38, 39, 40, 41, 42, 43, 44] (by decide +kernel) (by decide +kernel)) (goodIn_sub (fun _ h => List.mem_cons_of_mem _ (List.mem_append_right _ h)) (by decide +kernel))
set_option maxRecDepth 20000 in
theorem gX3_move_X3_requireSeasonOn : GoodIn wsX3_move (wsV RX3 88 RX3 yX3_requireSeasonOn wsX3_requireSeasonOn) := goodIn_app (goodIn_of _ (by decide +kernel)) ggX3_move_X3_requireSeasonOn
set_option maxRecDepth 20000 in
theorem ggX3_move_X3_requireRoomFor : GoodIn wsX3_move wsX3_requireRoomFor := goodIn_ca (goodIn_r _ [24, 3, 4, 25, 26, 27, 28, 29, 30, 31, 32, 33, 34] (by decide +kernel) (by decide +kernel)) (goodIn_sub (fun _ h => List.mem_cons_of_mem _ (List.mem_append_right _ h)) (by decide +kernel))
set_option maxRecDepth 20000 in
theorem gX3_move_X3_requireRoomFor : GoodIn wsX3_move (va_wsS RX3 81 yX3_requireRoomFor wsX3_requireRoomFor) := goodIn_app (goodIn_of _ (by decide +kernel)) ggX3_move_X3_requireRoomFor
set_option maxRecDepth 20000 in
theorem ggX3_run_X3_requireSeasonOn : GoodIn wsX3_run wsX3_requireSeasonOn := goodIn_ca (goodIn_r _ [7, 8, 9, 2, 38, 39, 40, 41, 42, 43, 44, 45, 46, 47] (by decide +kernel) (by decide +kernel)) (goodIn_sub (fun _ h => List.mem_cons_of_mem _ (List.mem_append_right _ h)) (by decide +kernel))
set_option maxRecDepth 20000 in
theorem gX3_run_X3_requireSeasonOn : GoodIn wsX3_run (wsV RX3 88 RX3 yX3_requireSeasonOn wsX3_requireSeasonOn) := goodIn_app (goodIn_of _ (by decide +kernel)) ggX3_run_X3_requireSeasonOn
set_option maxRecDepth 20000 in
theorem ggX3_run_X2_sellForAWeek : GoodIn wsX3_run wsX2_sellForAWeek := goodIn_r _ [13, 14, 15, 16, 17, 18, 19, 11, 20, 21, 22, 23, 24, 25, 26, 27, 28, 29, 30, 31, 32, 33, 34, 35, 36, 37, 48, 49, 50, 51, 52] (by decide +kernel) (by decide +kernel)
set_option maxRecDepth 20000 in
theorem gX3_run_X2_sellForAWeek_n115 : GoodIn wsX3_run (wsX2_sellForAWeek) := ggX3_run_X2_sellForAWeek
set_option maxRecDepth 20000 in
theorem ggX3_stock_X3_storeOf : GoodIn wsX3_stock wsX3_storeOf := goodIn_ca (goodIn_r _ [5, 6, 7, 8, 4, 9, 10, 11, 20, 21, 22] (by decide +kernel) (by decide +kernel)) (goodIn_sub (fun _ h => List.mem_cons_of_mem _ (List.mem_append_right _ h)) (by decide +kernel))
set_option maxRecDepth 20000 in
theorem gX3_stock_X3_storeOf : GoodIn wsX3_stock (wsV RX3 62 RX3 yX3_storeOf wsX3_storeOf) := goodIn_app (goodIn_of _ (by decide +kernel)) ggX3_stock_X3_storeOf
set_option maxRecDepth 20000 in
theorem ggX3_stock_X3_requireSize : GoodIn wsX3_stock wsX3_requireSize := goodIn_ca (goodIn_r _ [14, 7, 8, 4, 9, 10, 11] (by decide +kernel) (by decide +kernel)) (goodIn_sub (fun _ h => List.mem_cons_of_mem _ (List.mem_append_right _ h)) (by decide +kernel))
set_option maxRecDepth 20000 in
theorem gX3_stock_X3_requireSize : GoodIn wsX3_stock (va_wsS RX3 78 yX3_requireSize wsX3_requireSize) := goodIn_app (goodIn_of _ (by decide +kernel)) ggX3_stock_X3_requireSize
set_option maxRecDepth 20000 in
theorem ggX3_step_X3_storeOf : GoodIn wsX3_step wsX3_storeOf := goodIn_ca (goodIn_r _ [5, 6, 7, 8, 4, 9, 10, 11, 17, 18, 19] (by decide +kernel) (by decide +kernel)) (goodIn_sub (fun _ h => List.mem_cons_of_mem _ (List.mem_append_right _ h)) (by decide +kernel))
set_option maxRecDepth 20000 in
theorem gX3_step_X3_storeOf : GoodIn wsX3_step (wsV RX3 62 RX3 yX3_storeOf wsX3_storeOf) := goodIn_app (goodIn_of _ (by decide +kernel)) ggX3_step_X3_storeOf
set_option maxRecDepth 20000 in
theorem ggX3_weeksToWait_X3_storeOf : GoodIn wsX3_weeksToWait wsX3_storeOf := goodIn_ca (goodIn_r _ [6, 7, 8, 9, 5, 10, 11, 12, 22, 23, 24] (by decide +kernel) (by decide +kernel)) (goodIn_sub (fun _ h => List.mem_cons_of_mem _ (List.mem_append_right _ h)) (by decide +kernel))
set_option maxRecDepth 20000 in
theorem gX3_weeksToWait_X3_storeOf : GoodIn wsX3_weeksToWait (wsV RX3 62 RX3 yX3_storeOf wsX3_storeOf) := goodIn_app (goodIn_of _ (by decide +kernel)) ggX3_weeksToWait_X3_storeOf
set_option maxRecDepth 20000 in
theorem ggX3_weeksToWait_X2_waitFrom : GoodIn wsX3_weeksToWait wsX2_waitFrom := goodIn_r _ [16, 17, 18, 19, 20, 21, 32, 33, 34, 35, 36] (by decide +kernel) (by decide +kernel)
set_option maxRecDepth 20000 in
theorem gX3_weeksToWait_X2_waitFrom_n96 : GoodIn wsX3_weeksToWait (wsX2_waitFrom) := ggX3_weeksToWait_X2_waitFrom
set_option maxRecDepth 20000 in
theorem ggX3_sold_X3_storeOf : GoodIn wsX3_sold wsX3_storeOf := goodIn_ca (goodIn_r _ [5, 6, 7, 8, 4, 9, 10, 11, 17, 18, 19] (by decide +kernel) (by decide +kernel)) (goodIn_sub (fun _ h => List.mem_cons_of_mem _ (List.mem_append_right _ h)) (by decide +kernel))
set_option maxRecDepth 20000 in
theorem gX3_sold_X3_storeOf : GoodIn wsX3_sold (wsV RX3 62 RX3 yX3_storeOf wsX3_storeOf) := goodIn_app (goodIn_of _ (by decide +kernel)) ggX3_sold_X3_storeOf
set_option maxRecDepth 20000 in
theorem ggX3_wouldSell_X3_storeOf : GoodIn wsX3_wouldSell wsX3_storeOf := goodIn_ca (goodIn_r _ [5, 6, 7, 8, 4, 9, 10, 11, 33, 34, 35] (by decide +kernel) (by decide +kernel)) (goodIn_sub (fun _ h => List.mem_cons_of_mem _ (List.mem_append_right _ h)) (by decide +kernel))
set_option maxRecDepth 20000 in
theorem gX3_wouldSell_X3_storeOf : GoodIn wsX3_wouldSell (wsV RX3 62 RX3 yX3_storeOf wsX3_storeOf) := goodIn_app (goodIn_of _ (by decide +kernel)) ggX3_wouldSell_X3_storeOf
set_option maxRecDepth 20000 in
theorem ggX3_wouldSell_X3_requireStep : GoodIn wsX3_wouldSell wsX3_requireStep := goodIn_ca (goodIn_r _ [14, 7, 8, 4, 9, 10, 11] (by decide +kernel) (by decide +kernel)) (goodIn_sub (fun _ h => List.mem_cons_of_mem _ (List.mem_append_right _ h)) (by decide +kernel))
set_option maxRecDepth 20000 in
theorem gX3_wouldSell_X3_requireStep : GoodIn wsX3_wouldSell (va_wsS RX3 44 yX3_requireStep wsX3_requireStep) := goodIn_app (goodIn_of _ (by decide +kernel)) ggX3_wouldSell_X3_requireStep
set_option maxRecDepth 20000 in
theorem ggX3_wouldSell_X2_salesAt : GoodIn wsX3_wouldSell wsX2_salesAt := goodIn_r _ [18, 19, 20, 21, 22, 23, 24, 25, 26, 16, 27, 28, 29, 30, 31, 32, 36, 37, 38, 39, 40] (by decide +kernel) (by decide +kernel)
set_option maxRecDepth 20000 in
theorem gX3_wouldSell_X2_salesAt_n122 : GoodIn wsX3_wouldSell (wsX2_salesAt) := ggX3_wouldSell_X2_salesAt
set_option maxRecDepth 20000 in
theorem ggX3_best_X3_storeOf : GoodIn wsX3_best wsX3_storeOf := goodIn_ca (goodIn_r _ [7, 8, 9, 10, 6, 11, 12, 13, 76, 77, 78] (by decide +kernel) (by decide +kernel)) (goodIn_sub (fun _ h => List.mem_cons_of_mem _ (List.mem_append_right _ h)) (by decide +kernel))
set_option maxRecDepth 20000 in
theorem gX3_best_X3_storeOf : GoodIn wsX3_best (wsV RX3 62 RX3 yX3_storeOf wsX3_storeOf) := goodIn_app (goodIn_of _ (by decide +kernel)) ggX3_best_X3_storeOf
set_option maxRecDepth 20000 in
theorem ggX3_best_X0_lookAt : GoodIn wsX3_best wsX0_lookAt := goodIn_r _ [17, 18, 19, 20, 21, 22, 23, 24, 25, 26, 27, 28, 29, 30, 31, 32, 33, 34, 35, 36, 37, 38, 39, 40, 41, 42, 43, 44, 45, 46, 79, 80, 81, 82, 83, 84, 85, 86, 87, 88, 89, 90, 91, 92, 93, 94, 95, 96, 97, 98, 99, 100, 101, 102] (by decide +kernel) (by decide +kernel)
set_option maxRecDepth 20000 in
theorem gX3_best_X0_lookAt_n126 : GoodIn wsX3_best (wsX0_lookAt) := ggX3_best_X0_lookAt
set_option maxRecDepth 20000 in
theorem ggX3_best_X0_greatestWorth : GoodIn wsX3_best wsX0_greatestWorth := goodIn_r _ [49, 24, 33, 32, 34, 50, 51, 52, 15, 53, 54, 25, 55, 56, 57, 58, 59, 60, 61, 62, 63, 41, 30, 42, 64, 65, 66, 67, 26, 68, 69, 70, 71, 28, 29, 31, 23, 18, 72, 73, 74, 75, 27, 86, 87, 88, 89, 90, 91, 92, 93, 94, 95, 96, 97] (by decide +kernel) (by decide +kernel)
set_option maxRecDepth 20000 in
theorem gX3_best_X0_greatestWorth_n130 : GoodIn wsX3_best (wsX0_greatestWorth) := ggX3_best_X0_greatestWorth
set_option maxRecDepth 20000 in
theorem ggX3_bestByAll_X3_storeOf : GoodIn wsX3_bestByAll wsX3_storeOf := goodIn_ca (goodIn_r _ [9, 10, 11, 12, 8, 13, 14, 15, 63, 64, 65] (by decide +kernel) (by decide +kernel)) (goodIn_sub (fun _ h => List.mem_cons_of_mem _ (List.mem_append_right _ h)) (by decide +kernel))
set_option maxRecDepth 20000 in
theorem gX3_bestByAll_X3_storeOf : GoodIn wsX3_bestByAll (wsV RX3 62 RX3 yX3_storeOf wsX3_storeOf) := goodIn_app (goodIn_of _ (by decide +kernel)) ggX3_bestByAll_X3_storeOf
set_option maxRecDepth 20000 in
theorem ggX3_bestByAll_X0_lookAt : GoodIn wsX3_bestByAll wsX0_lookAt := goodIn_r _ [19, 20, 21, 22, 23, 24, 25, 26, 27, 28, 29, 30, 31, 32, 33, 34, 35, 36, 37, 38, 39, 40, 41, 42, 43, 44, 45, 46, 47, 48, 66, 67, 68, 69, 70, 71, 72, 73, 74, 75, 76, 77, 78, 79, 80, 81, 82, 83, 84, 85, 86, 87, 88, 89] (by decide +kernel) (by decide +kernel)
set_option maxRecDepth 20000 in
theorem gX3_bestByAll_X0_lookAt_n126 : GoodIn wsX3_bestByAll (wsX0_lookAt) := ggX3_bestByAll_X0_lookAt
set_option maxRecDepth 20000 in
theorem ggX3_bestByAll_X0_greatestWorthByAll : GoodIn wsX3_bestByAll wsX0_greatestWorthByAll := goodIn_r _ [51, 27, 26, 30, 31, 32, 33, 52, 35, 53, 54, 43, 44, 55, 56, 57, 17, 58, 36, 34, 28, 25, 20, 29, 59, 60, 61, 62, 73, 74, 75, 76, 77, 78, 79, 80, 81, 82, 83, 84] (by decide +kernel) (by decide +kernel)
set_option maxRecDepth 20000 in
theorem gX3_bestByAll_X0_greatestWorthByAll_n138 : GoodIn wsX3_bestByAll (wsX0_greatestWorthByAll) := ggX3_bestByAll_X0_greatestWorthByAll
set_option maxRecDepth 20000 in
theorem ggX3_planned_X3_storeOf : GoodIn wsX3_planned wsX3_storeOf := goodIn_ca (goodIn_r _ [7, 8, 9, 10, 6, 11, 12, 13, 80, 81, 82] (by decide +kernel) (by decide +kernel)) (goodIn_sub (fun _ h => List.mem_cons_of_mem _ (List.mem_append_right _ h)) (by decide +kernel))
set_option maxRecDepth 20000 in
theorem gX3_planned_X3_storeOf : GoodIn wsX3_planned (wsV RX3 62 RX3 yX3_storeOf wsX3_storeOf) := goodIn_app (goodIn_of _ (by decide +kernel)) ggX3_planned_X3_storeOf
set_option maxRecDepth 20000 in
theorem ggX3_planned_X3_requireWithin : GoodIn wsX3_planned wsX3_requireWithin := goodIn_ca (goodIn_r _ [11, 12, 13] (by decide +kernel) (by decide +kernel)) (goodIn_sub (fun _ h => List.mem_cons_of_mem _ (List.mem_append_right _ h)) (by decide +kernel))
set_option maxRecDepth 20000 in
theorem gX3_planned_X3_requireWithin : GoodIn wsX3_planned (va_wsS RX3 30 yX3_requireWithin wsX3_requireWithin) := goodIn_app (goodIn_of _ (by decide +kernel)) ggX3_planned_X3_requireWithin
set_option maxRecDepth 20000 in
theorem ggX3_planned_X0_lookAt : GoodIn wsX3_planned wsX0_lookAt := goodIn_r _ [17, 18, 19, 20, 21, 22, 23, 24, 25, 26, 27, 28, 29, 30, 31, 32, 33, 34, 35, 36, 37, 38, 39, 40, 41, 42, 43, 44, 45, 46, 83, 84, 85, 86, 87, 88, 89, 90, 91, 92, 93, 94, 95, 96, 97, 98, 99, 100, 101, 102, 103, 104, 105, 106] (by decide +kernel) (by decide +kernel)
set_option maxRecDepth 20000 in
theorem gX3_planned_X0_lookAt_n126 : GoodIn wsX3_planned (wsX0_lookAt) := ggX3_planned_X0_lookAt
set_option maxRecDepth 20000 in
theorem ggX3_planned_X0_bestStepIn : GoodIn wsX3_planned wsX0_bestStepIn := goodIn_r _ [49, 33, 34, 32, 24, 26, 23, 28, 29, 30, 31, 50, 51, 52, 15, 53, 54, 25, 55, 56, 57, 58, 59, 60, 61, 62, 63, 41, 42, 64, 65, 66, 67, 68, 69, 70, 71, 18, 72, 73, 74, 75, 27, 76, 77, 78, 79, 90, 91, 92, 93, 94, 95, 96, 97, 98, 99, 100, 101] (by decide +kernel) (by decide +kernel)
set_option maxRecDepth 20000 in
theorem gX3_planned_X0_bestStepIn_n141 : GoodIn wsX3_planned (wsX0_bestStepIn) := ggX3_planned_X0_bestStepIn
set_option maxRecDepth 20000 in
theorem ggX3_bestLeaving_X3_storeOf : GoodIn wsX3_bestLeaving wsX3_storeOf := goodIn_ca (goodIn_r _ [7, 8, 9, 10, 6, 11, 12, 13, 76, 77, 78] (by decide +kernel) (by decide +kernel)) (goodIn_sub (fun _ h => List.mem_cons_of_mem _ (List.mem_append_right _ h)) (by decide +kernel))
set_option maxRecDepth 20000 in
theorem gX3_bestLeaving_X3_storeOf : GoodIn wsX3_bestLeaving (wsV RX3 62 RX3 yX3_storeOf wsX3_storeOf) := goodIn_app (goodIn_of _ (by decide +kernel)) ggX3_bestLeaving_X3_storeOf
set_option maxRecDepth 20000 in
theorem ggX3_bestLeaving_X3_requireWithin : GoodIn wsX3_bestLeaving wsX3_requireWithin := goodIn_ca (goodIn_r _ [11, 12, 13] (by decide +kernel) (by decide +kernel)) (goodIn_sub (fun _ h => List.mem_cons_of_mem _ (List.mem_append_right _ h)) (by decide +kernel))
set_option maxRecDepth 20000 in
theorem gX3_bestLeaving_X3_requireWithin : GoodIn wsX3_bestLeaving (va_wsS RX3 30 yX3_requireWithin wsX3_requireWithin) := goodIn_app (goodIn_of _ (by decide +kernel)) ggX3_bestLeaving_X3_requireWithin
set_option maxRecDepth 20000 in
theorem ggX3_bestLeaving_X0_lookAt : GoodIn wsX3_bestLeaving wsX0_lookAt := goodIn_r _ [17, 18, 19, 20, 21, 22, 23, 24, 25, 26, 27, 28, 29, 30, 31, 32, 33, 34, 35, 36, 37, 38, 39, 40, 41, 42, 43, 44, 45, 46, 79, 80, 81, 82, 83, 84, 85, 86, 87, 88, 89, 90, 91, 92, 93, 94, 95, 96, 97, 98, 99, 100, 101, 102] (by decide +kernel) (by decide +kernel)
set_option maxRecDepth 20000 in
theorem gX3_bestLeaving_X0_lookAt_n126 : GoodIn wsX3_bestLeaving (wsX0_lookAt) := ggX3_bestLeaving_X0_lookAt
set_option maxRecDepth 20000 in
theorem ggX3_bestLeaving_X0_greatestWorth : GoodIn wsX3_bestLeaving wsX0_greatestWorth := goodIn_r _ [49, 24, 33, 32, 34, 50, 51, 52, 15, 53, 54, 25, 55, 56, 57, 58, 59, 60, 61, 62, 63, 41, 30, 42, 64, 65, 66, 67, 26, 68, 69, 70, 71, 28, 29, 31, 23, 18, 72, 73, 74, 75, 27, 86, 87, 88, 89, 90, 91, 92, 93, 94, 95, 96, 97] (by decide +kernel) (by decide +kernel)
set_option maxRecDepth 20000 in
theorem gX3_bestLeaving_X0_greatestWorth_n130 : GoodIn wsX3_bestLeaving (wsX0_greatestWorth) := ggX3_bestLeaving_X0_greatestWorth
set_option maxRecDepth 20000 in
theorem ggX3_requireStep_X3_requireWithin : GoodIn wsX3_requireStep wsX3_requireWithin := goodIn_ca (goodIn_r _ [4, 5, 6] (by decide +kernel) (by decide +kernel)) (goodIn_sub (fun _ h => List.mem_cons_of_mem _ (List.mem_append_right _ h)) (by decide +kernel))
set_option maxRecDepth 20000 in
theorem gX3_requireStep_X3_requireWithin : GoodIn wsX3_requireStep (va_wsS RX3 30 yX3_requireWithin wsX3_requireWithin) := goodIn_app (goodIn_of _ (by decide +kernel)) ggX3_requireStep_X3_requireWithin
set_option maxRecDepth 20000 in
theorem ggX3_requireSize_X3_requireWithin : GoodIn wsX3_requireSize wsX3_requireWithin := goodIn_ca (goodIn_r _ [4, 5, 6] (by decide +kernel) (by decide +kernel)) (goodIn_sub (fun _ h => List.mem_cons_of_mem _ (List.mem_append_right _ h)) (by decide +kernel))
set_option maxRecDepth 20000 in
theorem gX3_requireSize_X3_requireWithin : GoodIn wsX3_requireSize (va_wsS RX3 30 yX3_requireWithin wsX3_requireWithin) := goodIn_app (goodIn_of _ (by decide +kernel)) ggX3_requireSize_X3_requireWithin
set_option maxRecDepth 20000 in
theorem ggX3_requireRoomFor_X2_wholeStock : GoodIn wsX3_requireRoomFor wsX2_wholeStock := goodIn_r _ [6, 7, 8, 9, 10, 11, 12] (by decide +kernel) (by decide +kernel)
set_option maxRecDepth 20000 in
theorem gX3_requireRoomFor_X2_wholeStock_n146 : GoodIn wsX3_requireRoomFor (wsX2_wholeStock) := ggX3_requireRoomFor_X2_wholeStock
set_option maxRecDepth 20000 in
theorem ggX3_storeOf_X3_requireWithin : GoodIn wsX3_storeOf wsX3_requireWithin := goodIn_ca (goodIn_r _ [5, 6, 7] (by decide +kernel) (by decide +kernel)) (goodIn_sub (fun _ h => List.mem_cons_of_mem _ (List.mem_append_right _ h)) (by decide +kernel))
set_option maxRecDepth 20000 in
theorem gX3_storeOf_X3_requireWithin : GoodIn wsX3_storeOf (va_wsS RX3 30 yX3_requireWithin wsX3_requireWithin) := goodIn_app (goodIn_of _ (by decide +kernel)) ggX3_storeOf_X3_requireWithin
set_option maxRecDepth 20000 in
theorem ggX4_isStore_X4_in : GoodIn wsX4_isStore wsX4_in := goodIn_r _ [4] (by decide +kernel) (by decide +kernel)
set_option maxRecDepth 20000 in
theorem gX4_isStore_X4_in : GoodIn wsX4_isStore (va_wsS RX4 41 yX4_in wsX4_in) := goodIn_app (goodIn_of _ (by decide +kernel)) ggX4_isStore_X4_in
set_option maxRecDepth 20000 in
theorem ggX4_isSize_X4_in : GoodIn wsX4_isSize wsX4_in := goodIn_r _ [4] (by decide +kernel) (by decide +kernel)
set_option maxRecDepth 20000 in
theorem gX4_isSize_X4_in : GoodIn wsX4_isSize (va_wsS RX4 41 yX4_in wsX4_in) := goodIn_app (goodIn_of _ (by decide +kernel)) ggX4_isSize_X4_in
set_option maxRecDepth 20000 in
theorem ggX4_isStep_X4_in : GoodIn wsX4_isStep wsX4_in := goodIn_r _ [4] (by decide +kernel) (by decide +kernel)
set_option maxRecDepth 20000 in
theorem gX4_isStep_X4_in : GoodIn wsX4_isStep (va_wsS RX4 41 yX4_in wsX4_in) := goodIn_app (goodIn_of _ (by decide +kernel)) ggX4_isStep_X4_in
set_option maxRecDepth 20000 in
theorem ggX4_begin_X4_in : GoodIn wsX4_begin wsX4_in := goodIn_r _ [10] (by decide +kernel) (by decide +kernel)
set_option maxRecDepth 20000 in
theorem gX4_begin_X4_in : GoodIn wsX4_begin (va_wsS RX4 41 yX4_in wsX4_in) := goodIn_app (goodIn_of _ (by decide +kernel)) ggX4_begin_X4_in
set_option maxRecDepth 20000 in
theorem ggX4_begin_X4_asked : GoodIn wsX4_begin wsX4_asked := goodIn_r _ [14, 15, 16, 17, 18, 19, 20, 21, 22, 23, 24, 25, 26, 27, 28, 29] (by decide +kernel) (by decide +kernel)
set_option maxRecDepth 20000 in
theorem gX4_begin_X4_asked : GoodIn wsX4_begin (wsV RX4 45 RX4 yX4_asked wsX4_asked) := goodIn_app (goodIn_of _ (by decide +kernel)) ggX4_begin_X4_asked
set_option maxRecDepth 20000 in
theorem ggX4_setPrice_X4_isStep : GoodIn wsX4_setPrice wsX4_isStep := goodIn_r _ [5, 6, 7, 4, 8] (by decide +kernel) (by decide +kernel)
set_option maxRecDepth 20000 in
theorem gX4_setPrice_X4_isStep : GoodIn wsX4_setPrice (va_wsS RX4 55 yX4_isStep wsX4_isStep) := goodIn_app (goodIn_of _ (by decide +kernel)) ggX4_setPrice_X4_isStep
set_option maxRecDepth 20000 in
theorem ggX4_setPrice_X4_in : GoodIn wsX4_setPrice wsX4_in := goodIn_r _ [8] (by decide +kernel) (by decide +kernel)
set_option maxRecDepth 20000 in
theorem gX4_setPrice_X4_in : GoodIn wsX4_setPrice (va_wsS RX4 41 yX4_in wsX4_in) := goodIn_app (goodIn_of _ (by decide +kernel)) ggX4_setPrice_X4_in
set_option maxRecDepth 20000 in
theorem ggX4_setPrice_X4_asked_ : GoodIn wsX4_setPrice wsX4_asked_ := goodIn_r _ [12, 13, 14, 15, 16, 17, 18, 19, 20, 21, 22, 23, 24, 25, 26, 27] (by decide +kernel) (by decide +kernel)
set_option maxRecDepth 20000 in
theorem gX4_setPrice_X4_asked_ : GoodIn wsX4_setPrice (wsV RX4 59 RX4 yX4_asked_ wsX4_asked_) := goodIn_app (goodIn_of _ (by decide +kernel)) ggX4_setPrice_X4_asked_
set_option maxRecDepth 20000 in
theorem ggX4_setDemand_X4_isStore : GoodIn wsX4_setDemand wsX4_isStore := goodIn_r _ [5, 6, 7, 4, 8] (by decide +kernel) (by decide +kernel)
set_option maxRecDepth 20000 in
theorem gX4_setDemand_X4_isStore : GoodIn wsX4_setDemand (va_wsS RX4 62 yX4_isStore wsX4_isStore) := goodIn_app (goodIn_of _ (by decide +kernel)) ggX4_setDemand_X4_isStore
set_option maxRecDepth 20000 in
theorem ggX4_setDemand_X4_isStep : GoodIn wsX4_setDemand wsX4_isStep := goodIn_r _ [11, 6, 7, 4, 8] (by decide +kernel) (by decide +kernel)
set_option maxRecDepth 20000 in
theorem gX4_setDemand_X4_isStep : GoodIn wsX4_setDemand (va_wsS RX4 55 yX4_isStep wsX4_isStep) := goodIn_app (goodIn_of _ (by decide +kernel)) ggX4_setDemand_X4_isStep
set_option maxRecDepth 20000 in
theorem ggX4_setDemand_X4_in : GoodIn wsX4_setDemand wsX4_in := goodIn_r _ [8] (by decide +kernel) (by decide +kernel)
set_option maxRecDepth 20000 in
theorem gX4_setDemand_X4_in : GoodIn wsX4_setDemand (va_wsS RX4 41 yX4_in wsX4_in) := goodIn_app (goodIn_of _ (by decide +kernel)) ggX4_setDemand_X4_in
set_option maxRecDepth 20000 in
theorem ggX4_setDemand_X4_asked : GoodIn wsX4_setDemand wsX4_asked := goodIn_r _ [15, 16, 17, 18, 19, 20, 21, 22, 23, 24, 25, 26, 27, 28, 29, 30] (by decide +kernel) (by decide +kernel)
set_option maxRecDepth 20000 in
theorem gX4_setDemand_X4_asked : GoodIn wsX4_setDemand (wsV RX4 45 RX4 yX4_asked wsX4_asked) := goodIn_app (goodIn_of _ (by decide +kernel)) ggX4_setDemand_X4_asked
set_option maxRecDepth 20000 in
theorem ggX4_setRules_X4_in : GoodIn wsX4_setRules wsX4_in := goodIn_r _ [7] (by decide +kernel) (by decide +kernel)
set_option maxRecDepth 20000 in
theorem gX4_setRules_X4_in : GoodIn wsX4_setRules (va_wsS RX4 41 yX4_in wsX4_in) := goodIn_app (goodIn_of _ (by decide +kernel)) ggX4_setRules_X4_in
set_option maxRecDepth 20000 in
theorem ggX4_setRules_X4_asked : GoodIn wsX4_setRules wsX4_asked := goodIn_r _ [11, 12, 13, 14, 15, 16, 17, 18, 19, 20, 21, 22, 23, 24, 25, 26] (by decide +kernel) (by decide +kernel)
set_option maxRecDepth 20000 in
theorem gX4_setRules_X4_asked : GoodIn wsX4_setRules (wsV RX4 45 RX4 yX4_asked wsX4_asked) := goodIn_app (goodIn_of _ (by decide +kernel)) ggX4_setRules_X4_asked
set_option maxRecDepth 20000 in
theorem ggX4_put_X4_isStore : GoodIn wsX4_put wsX4_isStore := goodIn_r _ [5, 6, 7, 4, 8] (by decide +kernel) (by decide +kernel)
set_option maxRecDepth 20000 in
theorem gX4_put_X4_isStore : GoodIn wsX4_put (va_wsS RX4 62 yX4_isStore wsX4_isStore) := goodIn_app (goodIn_of _ (by decide +kernel)) ggX4_put_X4_isStore
set_option maxRecDepth 20000 in
theorem ggX4_put_X4_isSize : GoodIn wsX4_put wsX4_isSize := goodIn_r _ [11, 6, 7, 4, 8] (by decide +kernel) (by decide +kernel)
set_option maxRecDepth 20000 in
theorem gX4_put_X4_isSize : GoodIn wsX4_put (va_wsS RX4 71 yX4_isSize wsX4_isSize) := goodIn_app (goodIn_of _ (by decide +kernel)) ggX4_put_X4_isSize
set_option maxRecDepth 20000 in
theorem ggX4_put_X4_in : GoodIn wsX4_put wsX4_in := goodIn_r _ [8] (by decide +kernel) (by decide +kernel)
set_option maxRecDepth 20000 in
theorem gX4_put_X4_in : GoodIn wsX4_put (va_wsS RX4 41 yX4_in wsX4_in) := goodIn_app (goodIn_of _ (by decide +kernel)) ggX4_put_X4_in
set_option maxRecDepth 20000 in
theorem ggX4_put_X4_whole : GoodIn wsX4_put wsX4_whole := goodIn_r _ [15, 1, 21, 22, 23, 24, 25, 26, 27, 28, 29, 30, 31, 32, 33, 34] (by decide +kernel) (by decide +kernel)
set_option maxRecDepth 20000 in
theorem gX4_put_X4_whole : GoodIn wsX4_put (wsV RX4 74 RX4 yX4_whole wsX4_whole) := goodIn_app (goodIn_of _ (by decide +kernel)) ggX4_put_X4_whole
set_option maxRecDepth 20000 in
theorem ggX4_put_X4_asked_ : GoodIn wsX4_put wsX4_asked_ := goodIn_r _ [19, 20, 21, 22, 23, 24, 25, 26, 27, 28, 29, 30, 31, 32, 33, 34] (by decide +kernel) (by decide +kernel)
set_option maxRecDepth 20000 in
theorem gX4_put_X4_asked_ : GoodIn wsX4_put (wsV RX4 59 RX4 yX4_asked_ wsX4_asked_) := goodIn_app (goodIn_of _ (by decide +kernel)) ggX4_put_X4_asked_
set_option maxRecDepth 20000 in
theorem ggX4_markDown_X4_isStore : GoodIn wsX4_markDown wsX4_isStore := goodIn_r _ [9, 10, 11, 8, 12] (by decide +kernel) (by decide +kernel)
set_option maxRecDepth 20000 in
theorem gX4_markDown_X4_isStore : GoodIn wsX4_markDown (va_wsS RX4 62 yX4_isStore wsX4_isStore) := goodIn_app (goodIn_of _ (by decide +kernel)) ggX4_markDown_X4_isStore
set_option maxRecDepth 20000 in
theorem ggX4_markDown_X4_isStep : GoodIn wsX4_markDown wsX4_isStep := goodIn_r _ [15, 10, 11, 8, 12] (by decide +kernel) (by decide +kernel)
set_option maxRecDepth 20000 in
theorem gX4_markDown_X4_isStep : GoodIn wsX4_markDown (va_wsS RX4 55 yX4_isStep wsX4_isStep) := goodIn_app (goodIn_of _ (by decide +kernel)) ggX4_markDown_X4_isStep
set_option maxRecDepth 20000 in
theorem ggX4_markDown_X4_waits : GoodIn wsX4_markDown wsX4_waits := goodIn_r _ [19, 4, 20, 1, 26, 27, 28, 29, 30, 31, 32, 33, 34, 35, 36, 37, 38, 39] (by decide +kernel) (by decide +kernel)
set_option maxRecDepth 20000 in
theorem gX4_markDown_X4_waits : GoodIn wsX4_markDown (wsV RX4 78 RX4 yX4_waits wsX4_waits) := goodIn_app (goodIn_of _ (by decide +kernel)) ggX4_markDown_X4_waits
set_option maxRecDepth 20000 in
theorem ggX4_markDown_X4_asked_ : GoodIn wsX4_markDown wsX4_asked_ := goodIn_r _ [24, 25, 26, 27, 28, 29, 30, 31, 32, 33, 34, 35, 36, 37, 38, 39] (by decide +kernel) (by decide +kernel)
set_option maxRecDepth 20000 in
theorem gX4_markDown_X4_asked_ : GoodIn wsX4_markDown (wsV RX4 59 RX4 yX4_asked_ wsX4_asked_) := goodIn_app (goodIn_of _ (by decide +kernel)) ggX4_markDown_X4_asked_
set_option maxRecDepth 20000 in
theorem ggX4_move_X4_isStore : GoodIn wsX4_move wsX4_isStore := goodIn_r _ [9, 10, 11, 8, 12] (by decide +kernel) (by decide +kernel)
set_option maxRecDepth 20000 in
theorem gX4_move_X4_isStore : GoodIn wsX4_move (va_wsS RX4 62 yX4_isStore wsX4_isStore) := goodIn_app (goodIn_of _ (by decide +kernel)) ggX4_move_X4_isStore
set_option maxRecDepth 20000 in
theorem ggX4_move_X4_isSize : GoodIn wsX4_move wsX4_isSize := goodIn_r _ [15, 10, 11, 8, 12] (by decide +kernel) (by decide +kernel)
set_option maxRecDepth 20000 in
theorem gX4_move_X4_isSize : GoodIn wsX4_move (va_wsS RX4 71 yX4_isSize wsX4_isSize) := goodIn_app (goodIn_of _ (by decide +kernel)) ggX4_move_X4_isSize
set_option maxRecDepth 20000 in
theorem ggX4_move_X4_in : GoodIn wsX4_move wsX4_in := goodIn_r _ [12] (by decide +kernel) (by decide +kernel)
set_option maxRecDepth 20000 in
theorem gX4_move_X4_in : GoodIn wsX4_move (va_wsS RX4 41 yX4_in wsX4_in) := goodIn_app (goodIn_of _ (by decide +kernel)) ggX4_move_X4_in
set_option maxRecDepth 20000 in
theorem ggX4_move_X4_whole : GoodIn wsX4_move wsX4_whole := goodIn_r _ [19, 3, 25, 26, 27, 28, 29, 30, 31, 32, 33, 34, 35, 36, 37, 38] (by decide +kernel) (by decide +kernel)
set_option maxRecDepth 20000 in
theorem gX4_move_X4_whole : GoodIn wsX4_move (wsV RX4 74 RX4 yX4_whole wsX4_whole) := goodIn_app (goodIn_of _ (by decide +kernel)) ggX4_move_X4_whole
set_option maxRecDepth 20000 in
theorem ggX4_move_X4_asked_ : GoodIn wsX4_move wsX4_asked_ := goodIn_r _ [23, 24, 25, 26, 27, 28, 29, 30, 31, 32, 33, 34, 35, 36, 37, 38] (by decide +kernel) (by decide +kernel)
set_option maxRecDepth 20000 in
theorem gX4_move_X4_asked_ : GoodIn wsX4_move (wsV RX4 59 RX4 yX4_asked_ wsX4_asked_) := goodIn_app (goodIn_of _ (by decide +kernel)) ggX4_move_X4_asked_
set_option maxRecDepth 20000 in
theorem ggX4_sells_X4_whole : GoodIn wsX4_sells wsX4_whole := goodIn_r _ [7, 1, 8, 9, 10, 11, 12, 13, 14, 15, 16, 17, 18, 19, 20, 21] (by decide +kernel) (by decide +kernel)
set_option maxRecDepth 20000 in
theorem gX4_sells_X4_whole : GoodIn wsX4_sells (wsV RX4 74 RX4 yX4_whole wsX4_whole) := goodIn_app (goodIn_of _ (by decide +kernel)) ggX4_sells_X4_whole
set_option maxRecDepth 20000 in
theorem ggX4_run_X4_asked : GoodIn wsX4_run wsX4_asked := goodIn_r _ [12, 13, 23, 24, 25, 26, 27, 28, 29, 30, 31, 32, 33, 34, 35, 36] (by decide +kernel) (by decide +kernel)
set_option maxRecDepth 20000 in
theorem gX4_run_X4_asked : GoodIn wsX4_run (wsV RX4 45 RX4 yX4_asked wsX4_asked) := goodIn_app (goodIn_of _ (by decide +kernel)) ggX4_run_X4_asked
set_option maxRecDepth 20000 in
theorem ggX4_run_X4_sells : GoodIn wsX4_run wsX4_sells := goodIn_r _ [17, 4, 18, 19, 20, 21, 11, 22, 23, 24, 25, 26, 27, 28, 29, 30, 31, 32, 33, 34, 35, 36] (by decide +kernel) (by decide +kernel)
set_option maxRecDepth 20000 in
theorem gX4_run_X4_sells : GoodIn wsX4_run (wsV RX4 81 RX4 yX4_sells wsX4_sells) := goodIn_app (goodIn_of _ (by decide +kernel)) ggX4_run_X4_sells
set_option maxRecDepth 20000 in
theorem ggX4_week_X4_told : GoodIn wsX4_week wsX4_told := goodIn_r _ [6, 7, 8, 9, 10, 11, 12, 13, 14, 15, 16, 17, 18, 19, 20, 21] (by decide +kernel) (by decide +kernel)
set_option maxRecDepth 20000 in
theorem gX4_week_X4_told : GoodIn wsX4_week (wsV RX4 85 RX4 yX4_told wsX4_told) := goodIn_app (goodIn_of _ (by decide +kernel)) ggX4_week_X4_told
set_option maxRecDepth 20000 in
theorem ggX4_stock_X4_isStore : GoodIn wsX4_stock wsX4_isStore := goodIn_r _ [5, 6, 7, 4, 8] (by decide +kernel) (by decide +kernel)
set_option maxRecDepth 20000 in
theorem gX4_stock_X4_isStore : GoodIn wsX4_stock (va_wsS RX4 62 yX4_isStore wsX4_isStore) := goodIn_app (goodIn_of _ (by decide +kernel)) ggX4_stock_X4_isStore
set_option maxRecDepth 20000 in
theorem ggX4_stock_X4_isSize : GoodIn wsX4_stock wsX4_isSize := goodIn_r _ [11, 6, 7, 4, 8] (by decide +kernel) (by decide +kernel)
set_option maxRecDepth 20000 in
theorem gX4_stock_X4_isSize : GoodIn wsX4_stock (va_wsS RX4 71 yX4_isSize wsX4_isSize) := goodIn_app (goodIn_of _ (by decide +kernel)) ggX4_stock_X4_isSize
set_option maxRecDepth 20000 in
theorem ggX4_stock_X4_asked : GoodIn wsX4_stock wsX4_asked := goodIn_r _ [15, 16, 17, 18, 19, 20, 21, 22, 23, 24, 25, 26, 27, 28, 29, 30] (by decide +kernel) (by decide +kernel)
set_option maxRecDepth 20000 in
theorem gX4_stock_X4_asked : GoodIn wsX4_stock (wsV RX4 45 RX4 yX4_asked wsX4_asked) := goodIn_app (goodIn_of _ (by decide +kernel)) ggX4_stock_X4_asked
set_option maxRecDepth 20000 in
theorem ggX4_step_X4_isStore : GoodIn wsX4_step wsX4_isStore := goodIn_r _ [5, 6, 7, 4, 8] (by decide +kernel) (by decide +kernel)
set_option maxRecDepth 20000 in
theorem gX4_step_X4_isStore : GoodIn wsX4_step (va_wsS RX4 62 yX4_isStore wsX4_isStore) := goodIn_app (goodIn_of _ (by decide +kernel)) ggX4_step_X4_isStore
set_option maxRecDepth 20000 in
theorem ggX4_step_X4_asked : GoodIn wsX4_step wsX4_asked := goodIn_r _ [12, 13, 14, 15, 16, 17, 18, 19, 20, 21, 22, 23, 24, 25, 26, 27] (by decide +kernel) (by decide +kernel)
set_option maxRecDepth 20000 in
theorem gX4_step_X4_asked : GoodIn wsX4_step (wsV RX4 45 RX4 yX4_asked wsX4_asked) := goodIn_app (goodIn_of _ (by decide +kernel)) ggX4_step_X4_asked
set_option maxRecDepth 20000 in
theorem ggX4_weeksToWait_X4_isStore : GoodIn wsX4_weeksToWait wsX4_isStore := goodIn_r _ [4, 5, 6, 3, 7] (by decide +kernel) (by decide +kernel)
set_option maxRecDepth 20000 in
theorem gX4_weeksToWait_X4_isStore : GoodIn wsX4_weeksToWait (va_wsS RX4 62 yX4_isStore wsX4_isStore) := goodIn_app (goodIn_of _ (by decide +kernel)) ggX4_weeksToWait_X4_isStore
set_option maxRecDepth 20000 in
theorem ggX4_weeksToWait_X4_asked : GoodIn wsX4_weeksToWait wsX4_asked := goodIn_r _ [11, 12, 20, 21, 22, 23, 24, 25, 26, 27, 28, 29, 30, 31, 32, 33] (by decide +kernel) (by decide +kernel)
set_option maxRecDepth 20000 in
theorem gX4_weeksToWait_X4_asked : GoodIn wsX4_weeksToWait (wsV RX4 45 RX4 yX4_asked wsX4_asked) := goodIn_app (goodIn_of _ (by decide +kernel)) ggX4_weeksToWait_X4_asked
set_option maxRecDepth 20000 in
theorem ggX4_weeksToWait_X4_waits : GoodIn wsX4_weeksToWait wsX4_waits := goodIn_r _ [16, 17, 18, 19, 20, 21, 22, 23, 24, 25, 26, 27, 28, 29, 30, 31, 32, 33] (by decide +kernel) (by decide +kernel)
set_option maxRecDepth 20000 in
theorem gX4_weeksToWait_X4_waits : GoodIn wsX4_weeksToWait (wsV RX4 78 RX4 yX4_waits wsX4_waits) := goodIn_app (goodIn_of _ (by decide +kernel)) ggX4_weeksToWait_X4_waits
set_option maxRecDepth 20000 in
theorem ggX4_sold_X4_isStore : GoodIn wsX4_sold wsX4_isStore := goodIn_r _ [5, 6, 7, 4, 8] (by decide +kernel) (by decide +kernel)
set_option maxRecDepth 20000 in
theorem gX4_sold_X4_isStore : GoodIn wsX4_sold (va_wsS RX4 62 yX4_isStore wsX4_isStore) := goodIn_app (goodIn_of _ (by decide +kernel)) ggX4_sold_X4_isStore
set_option maxRecDepth 20000 in
theorem ggX4_sold_X4_asked : GoodIn wsX4_sold wsX4_asked := goodIn_r _ [12, 13, 14, 15, 16, 17, 18, 19, 20, 21, 22, 23, 24, 25, 26, 27] (by decide +kernel) (by decide +kernel)
set_option maxRecDepth 20000 in
theorem gX4_sold_X4_asked : GoodIn wsX4_sold (wsV RX4 45 RX4 yX4_asked wsX4_asked) := goodIn_app (goodIn_of _ (by decide +kernel)) ggX4_sold_X4_asked
set_option maxRecDepth 20000 in
theorem ggX4_taken_X4_told : GoodIn wsX4_taken wsX4_told := goodIn_r _ [6, 7, 8, 9, 10, 11, 12, 13, 14, 15, 16, 17, 18, 19, 20, 21] (by decide +kernel) (by decide +kernel)
set_option maxRecDepth 20000 in
theorem gX4_taken_X4_told : GoodIn wsX4_taken (wsV RX4 85 RX4 yX4_told wsX4_told) := goodIn_app (goodIn_of _ (by decide +kernel)) ggX4_taken_X4_told
set_option maxRecDepth 20000 in
theorem ggX4_wouldSell_X4_isStore : GoodIn wsX4_wouldSell wsX4_isStore := goodIn_r _ [4, 5, 6, 3, 7] (by decide +kernel) (by decide +kernel)
set_option maxRecDepth 20000 in
theorem gX4_wouldSell_X4_isStore : GoodIn wsX4_wouldSell (va_wsS RX4 62 yX4_isStore wsX4_isStore) := goodIn_app (goodIn_of _ (by decide +kernel)) ggX4_wouldSell_X4_isStore
set_option maxRecDepth 20000 in
theorem ggX4_wouldSell_X4_isStep : GoodIn wsX4_wouldSell wsX4_isStep := goodIn_r _ [10, 5, 6, 3, 7] (by decide +kernel) (by decide +kernel)
set_option maxRecDepth 20000 in
theorem gX4_wouldSell_X4_isStep : GoodIn wsX4_wouldSell (va_wsS RX4 55 yX4_isStep wsX4_isStep) := goodIn_app (goodIn_of _ (by decide +kernel)) ggX4_wouldSell_X4_isStep
set_option maxRecDepth 20000 in
theorem ggX4_wouldSell_X4_asked : GoodIn wsX4_wouldSell wsX4_asked := goodIn_r _ [14, 15, 26, 27, 28, 29, 30, 31, 32, 33, 34, 35, 36, 37, 38, 39] (by decide +kernel) (by decide +kernel)
set_option maxRecDepth 20000 in
theorem gX4_wouldSell_X4_asked : GoodIn wsX4_wouldSell (wsV RX4 45 RX4 yX4_asked wsX4_asked) := goodIn_app (goodIn_of _ (by decide +kernel)) ggX4_wouldSell_X4_asked
set_option maxRecDepth 20000 in
theorem ggX4_wouldSell_X4_sells : GoodIn wsX4_wouldSell wsX4_sells := goodIn_r _ [19, 20, 21, 22, 23, 24, 3, 25, 26, 27, 28, 29, 30, 31, 32, 33, 34, 35, 36, 37, 38, 39] (by decide +kernel) (by decide +kernel)
set_option maxRecDepth 20000 in
theorem gX4_wouldSell_X4_sells : GoodIn wsX4_wouldSell (wsV RX4 81 RX4 yX4_sells wsX4_sells) := goodIn_app (goodIn_of _ (by decide +kernel)) ggX4_wouldSell_X4_sells
set_option maxRecDepth 20000 in
theorem ggX4_worthOf_X4_at : GoodIn wsX4_worthOf wsX4_at := goodIn_r _ [8] (by decide +kernel) (by decide +kernel)
set_option maxRecDepth 20000 in
theorem gX4_worthOf_X4_at : GoodIn wsX4_worthOf (va_wsS RX4 88 yX4_at wsX4_at) := goodIn_app (goodIn_of _ (by decide +kernel)) ggX4_worthOf_X4_at
set_option maxRecDepth 20000 in
theorem ggX4_finds_X4_worthOf : GoodIn wsX4_finds wsX4_worthOf := goodIn_r _ [10, 11, 12, 1, 13, 14, 15, 9, 16, 27, 28, 29, 30, 31, 32, 33, 34, 35, 36, 37, 38, 39, 40] (by decide +kernel) (by decide +kernel)
set_option maxRecDepth 20000 in
theorem gX4_finds_X4_worthOf : GoodIn wsX4_finds (wsV RX4 92 RX4 yX4_worthOf wsX4_worthOf) := goodIn_app (goodIn_of _ (by decide +kernel)) ggX4_finds_X4_worthOf
set_option maxRecDepth 20000 in
theorem ggX4_finds_X4_waits : GoodIn wsX4_finds wsX4_waits := goodIn_r _ [20, 21, 12, 4, 27, 28, 29, 30, 31, 32, 33, 34, 35, 36, 37, 38, 39, 40] (by decide +kernel) (by decide +kernel)
set_option maxRecDepth 20000 in
theorem gX4_finds_X4_waits : GoodIn wsX4_finds (wsV RX4 78 RX4 yX4_waits wsX4_waits) := goodIn_app (goodIn_of _ (by decide +kernel)) ggX4_finds_X4_waits
set_option maxRecDepth 20000 in
theorem ggX4_finds_X4_whole : GoodIn wsX4_finds wsX4_whole := goodIn_r _ [25, 26, 27, 28, 29, 30, 31, 32, 33, 34, 35, 36, 37, 38, 39, 40] (by decide +kernel) (by decide +kernel)
set_option maxRecDepth 20000 in
theorem gX4_finds_X4_whole : GoodIn wsX4_finds (wsV RX4 74 RX4 yX4_whole wsX4_whole) := goodIn_app (goodIn_of _ (by decide +kernel)) ggX4_finds_X4_whole
set_option maxRecDepth 20000 in
theorem ggX4_finds_X4_at : GoodIn wsX4_finds wsX4_at := goodIn_r _ [16] (by decide +kernel) (by decide +kernel)
set_option maxRecDepth 20000 in
theorem gX4_finds_X4_at : GoodIn wsX4_finds (va_wsS RX4 88 yX4_at wsX4_at) := goodIn_app (goodIn_of _ (by decide +kernel)) ggX4_finds_X4_at
set_option maxRecDepth 20000 in
theorem ggX4_best_X4_isStore : GoodIn wsX4_best wsX4_isStore := goodIn_r _ [4, 5, 6, 3, 7] (by decide +kernel) (by decide +kernel)
set_option maxRecDepth 20000 in
theorem gX4_best_X4_isStore : GoodIn wsX4_best (va_wsS RX4 62 yX4_isStore wsX4_isStore) := goodIn_app (goodIn_of _ (by decide +kernel)) ggX4_best_X4_isStore
set_option maxRecDepth 20000 in
theorem ggX4_best_X4_asked : GoodIn wsX4_best wsX4_asked := goodIn_r _ [11, 12, 42, 43, 44, 45, 46, 47, 48, 49, 50, 51, 52, 53, 54, 55] (by decide +kernel) (by decide +kernel)
set_option maxRecDepth 20000 in
theorem gX4_best_X4_asked : GoodIn wsX4_best (wsV RX4 45 RX4 yX4_asked wsX4_asked) := goodIn_app (goodIn_of _ (by decide +kernel)) ggX4_best_X4_asked
set_option maxRecDepth 20000 in
theorem ggX4_best_X4_finds : GoodIn wsX4_best wsX4_finds := goodIn_r _ [16, 17, 18, 19, 20, 21, 22, 23, 24, 3, 25, 26, 27, 28, 29, 30, 31, 32, 33, 34, 35, 36, 37, 38, 39, 40, 41, 42, 43, 44, 45, 46, 47, 48, 49, 50, 51, 52, 53, 54, 55] (by decide +kernel) (by decide +kernel)
set_option maxRecDepth 20000 in
theorem gX4_best_X4_finds : GoodIn wsX4_best (wsV RX4 96 RX4 yX4_finds wsX4_finds) := goodIn_app (goodIn_of _ (by decide +kernel)) ggX4_best_X4_finds
set_option maxRecDepth 20000 in
theorem ggX4_bestByAll_X4_isStore : GoodIn wsX4_bestByAll wsX4_isStore := goodIn_r _ [6, 7, 8, 5, 9] (by decide +kernel) (by decide +kernel)
set_option maxRecDepth 20000 in
theorem gX4_bestByAll_X4_isStore : GoodIn wsX4_bestByAll (va_wsS RX4 62 yX4_isStore wsX4_isStore) := goodIn_app (goodIn_of _ (by decide +kernel)) ggX4_bestByAll_X4_isStore
set_option maxRecDepth 20000 in
theorem ggX4_bestByAll_X4_asked_ : GoodIn wsX4_bestByAll wsX4_asked_ := goodIn_r _ [13, 14, 42, 43, 44, 45, 46, 47, 48, 49, 50, 51, 52, 53, 54, 55] (by decide +kernel) (by decide +kernel)
set_option maxRecDepth 20000 in
theorem gX4_bestByAll_X4_asked_ : GoodIn wsX4_bestByAll (wsV RX4 59 RX4 yX4_asked_ wsX4_asked_) := goodIn_app (goodIn_of _ (by decide +kernel)) ggX4_bestByAll_X4_asked_
set_option maxRecDepth 20000 in
theorem ggX4_bestByAll_X4_finds : GoodIn wsX4_bestByAll wsX4_finds := goodIn_r _ [18, 19, 1, 20, 2, 21, 22, 23, 24, 5, 25, 26, 27, 28, 29, 30, 31, 32, 33, 34, 35, 36, 37, 38, 39, 40, 41, 42, 43, 44, 45, 46, 47, 48, 49, 50, 51, 52, 53, 54, 55] (by decide +kernel) (by decide +kernel)
set_option maxRecDepth 20000 in
theorem gX4_bestByAll_X4_finds : GoodIn wsX4_bestByAll (wsV RX4 96 RX4 yX4_finds wsX4_finds) := goodIn_app (goodIn_of _ (by decide +kernel)) ggX4_bestByAll_X4_finds
set_option maxRecDepth 20000 in
theorem ggX4_planned_X4_isStore : GoodIn wsX4_planned wsX4_isStore := goodIn_r _ [10, 11, 12, 9, 13] (by decide +kernel) (by decide +kernel)
set_option maxRecDepth 20000 in
theorem gX4_planned_X4_isStore : GoodIn wsX4_planned (va_wsS RX4 62 yX4_isStore wsX4_isStore) := goodIn_app (goodIn_of _ (by decide +kernel)) ggX4_planned_X4_isStore
set_option maxRecDepth 20000 in
theorem ggX4_planned_X4_in : GoodIn wsX4_planned wsX4_in := goodIn_r _ [13] (by decide +kernel) (by decide +kernel)
set_option maxRecDepth 20000 in
theorem gX4_planned_X4_in : GoodIn wsX4_planned (va_wsS RX4 41 yX4_in wsX4_in) := goodIn_app (goodIn_of _ (by decide +kernel)) ggX4_planned_X4_in
set_option maxRecDepth 20000 in
theorem ggX4_planned_X4_asked : GoodIn wsX4_planned wsX4_asked := goodIn_r _ [17, 18, 42, 43, 44, 45, 46, 47, 48, 49, 50, 51, 52, 53, 54, 55] (by decide +kernel) (by decide +kernel)
set_option maxRecDepth 20000 in
theorem gX4_planned_X4_asked : GoodIn wsX4_planned (wsV RX4 45 RX4 yX4_asked wsX4_asked) := goodIn_app (goodIn_of _ (by decide +kernel)) ggX4_planned_X4_asked
set_option maxRecDepth 20000 in
theorem ggX4_planned_X4_finds : GoodIn wsX4_planned wsX4_finds := goodIn_r _ [22, 23, 2, 24, 1, 3, 25, 26, 27, 9, 28, 4, 6, 5, 29, 30, 31, 32, 33, 34, 35, 36, 37, 38, 39, 40, 41, 42, 43, 44, 45, 46, 47, 48, 49, 50, 51, 52, 53, 54, 55] (by decide +kernel) (by decide +kernel)
set_option maxRecDepth 20000 in
theorem gX4_planned_X4_finds : GoodIn wsX4_planned (wsV RX4 96 RX4 yX4_finds wsX4_finds) := goodIn_app (goodIn_of _ (by decide +kernel)) ggX4_planned_X4_finds
set_option maxRecDepth 20000 in
theorem ggX4_planned_X4_waits : GoodIn wsX4_planned wsX4_waits := goodIn_r _ [35, 36, 6, 1, 42, 43, 44, 45, 46, 47, 48, 49, 50, 51, 52, 53, 54, 55] (by decide +kernel) (by decide +kernel)
set_option maxRecDepth 20000 in
theorem gX4_planned_X4_waits : GoodIn wsX4_planned (wsV RX4 78 RX4 yX4_waits wsX4_waits) := goodIn_app (goodIn_of _ (by decide +kernel)) ggX4_planned_X4_waits
set_option maxRecDepth 20000 in
theorem ggX4_planned_X4_whole : GoodIn wsX4_planned wsX4_whole := goodIn_r _ [40, 41, 42, 43, 44, 45, 46, 47, 48, 49, 50, 51, 52, 53, 54, 55] (by decide +kernel) (by decide +kernel)
set_option maxRecDepth 20000 in
theorem gX4_planned_X4_whole : GoodIn wsX4_planned (wsV RX4 74 RX4 yX4_whole wsX4_whole) := goodIn_app (goodIn_of _ (by decide +kernel)) ggX4_planned_X4_whole
set_option maxRecDepth 20000 in
theorem ggX4_planned_X4_worthOf : GoodIn wsX4_planned wsX4_worthOf := goodIn_r _ [28, 4, 6, 23, 5, 29, 30, 9, 31, 42, 43, 44, 45, 46, 47, 48, 49, 50, 51, 52, 53, 54, 55] (by decide +kernel) (by decide +kernel)
set_option maxRecDepth 20000 in
theorem gX4_planned_X4_worthOf : GoodIn wsX4_planned (wsV RX4 92 RX4 yX4_worthOf wsX4_worthOf) := goodIn_app (goodIn_of _ (by decide +kernel)) ggX4_planned_X4_worthOf
set_option maxRecDepth 20000 in
theorem ggX4_bestLeaving_X4_isStore : GoodIn wsX4_bestLeaving wsX4_isStore := goodIn_r _ [4, 5, 6, 3, 7] (by decide +kernel) (by decide +kernel)
set_option maxRecDepth 20000 in
theorem gX4_bestLeaving_X4_isStore : GoodIn wsX4_bestLeaving (va_wsS RX4 62 yX4_isStore wsX4_isStore) := goodIn_app (goodIn_of _ (by decide +kernel)) ggX4_bestLeaving_X4_isStore
set_option maxRecDepth 20000 in
theorem ggX4_bestLeaving_X4_in : GoodIn wsX4_bestLeaving wsX4_in := goodIn_r _ [7] (by decide +kernel) (by decide +kernel)
set_option maxRecDepth 20000 in
theorem gX4_bestLeaving_X4_in : GoodIn wsX4_bestLeaving (va_wsS RX4 41 yX4_in wsX4_in) := goodIn_app (goodIn_of _ (by decide +kernel)) ggX4_bestLeaving_X4_in
set_option maxRecDepth 20000 in
theorem ggX4_bestLeaving_X4_asked : GoodIn wsX4_bestLeaving wsX4_asked := goodIn_r _ [11, 12, 42, 43, 44, 45, 46, 47, 48, 49, 50, 51, 52, 53, 54, 55] (by decide +kernel) (by decide +kernel)
set_option maxRecDepth 20000 in
theorem gX4_bestLeaving_X4_asked : GoodIn wsX4_bestLeaving (wsV RX4 45 RX4 yX4_asked wsX4_asked) := goodIn_app (goodIn_of _ (by decide +kernel)) ggX4_bestLeaving_X4_asked
set_option maxRecDepth 20000 in
theorem ggX4_bestLeaving_X4_finds : GoodIn wsX4_bestLeaving wsX4_finds := goodIn_r _ [16, 17, 18, 19, 20, 21, 22, 23, 24, 3, 25, 26, 27, 28, 29, 30, 31, 32, 33, 34, 35, 36, 37, 38, 39, 40, 41, 42, 43, 44, 45, 46, 47, 48, 49, 50, 51, 52, 53, 54, 55] (by decide +kernel) (by decide +kernel)
set_option maxRecDepth 20000 in
theorem gX4_bestLeaving_X4_finds : GoodIn wsX4_bestLeaving (wsV RX4 96 RX4 yX4_finds wsX4_finds) := goodIn_app (goodIn_of _ (by decide +kernel)) ggX4_bestLeaving_X4_finds
theorem dJ9_max_7cf53_0 : decode cJ9_max_7cf53 0 = .ok (.iload_n 0, 1) := by decide +kernel
theorem dJ9_max_7cf53_1 : decode cJ9_max_7cf53 1 = .ok (.iload_n 1, 1) := by decide +kernel
theorem dJ9_max_7cf53_2 : decode cJ9_max_7cf53 2 = .ok (.if_icmp .lt 7, 3) := by decide +kernel
theorem dJ9_max_7cf53_5 : decode cJ9_max_7cf53 5 = .ok (.iload_n 0, 1) := by decide +kernel
theorem dJ9_max_7cf53_6 : decode cJ9_max_7cf53 6 = .ok (.goto 4, 3) := by decide +kernel
theorem dJ9_max_7cf53_9 : decode cJ9_max_7cf53 9 = .ok (.iload_n 1, 1) := by decide +kernel
theorem dJ9_max_7cf53_10 : decode cJ9_max_7cf53 10 = .ok (.ireturn, 1) := by decide +kernel
theorem dJ9_min_7cf53_0 : decode cJ9_min_7cf53 0 = .ok (.iload_n 0, 1) := by decide +kernel
theorem dJ9_min_7cf53_1 : decode cJ9_min_7cf53 1 = .ok (.iload_n 1, 1) := by decide +kernel
theorem dJ9_min_7cf53_2 : decode cJ9_min_7cf53 2 = .ok (.if_icmp .gt 7, 3) := by decide +kernel
theorem dJ9_min_7cf53_5 : decode cJ9_min_7cf53 5 = .ok (.iload_n 0, 1) := by decide +kernel
theorem dJ9_min_7cf53_6 : decode cJ9_min_7cf53 6 = .ok (.goto 4, 3) := by decide +kernel
theorem dJ9_min_7cf53_9 : decode cJ9_min_7cf53 9 = .ok (.iload_n 1, 1) := by decide +kernel
theorem dJ9_min_7cf53_10 : decode cJ9_min_7cf53 10 = .ok (.ireturn, 1) := by decide +kernel
set_option maxRecDepth 20000 in
theorem ggL_begin_X3_begin : GoodIn wsL_begin wsX3_begin := goodIn_ca (goodIn_r _ [6, 7, 8, 9, 10, 5, 11, 12, 13, 14, 15, 16, 17, 18, 19, 20, 21, 22, 23, 24, 25, 26, 27, 28, 29, 30, 31, 32, 33, 34, 35, 36, 37, 38, 39, 40, 41, 42] (by decide +kernel) (by decide +kernel)) (goodIn_sub (fun _ h => List.mem_cons_of_mem _ (List.mem_append_right _ h)) (by decide +kernel))
set_option maxRecDepth 20000 in
theorem gL_begin_X3_begin : GoodIn wsL_begin (wsV RL 7 RX3 yX3_begin wsX3_begin) := goodIn_app (goodIn_of _ (by decide +kernel)) ggL_begin_X3_begin
set_option maxRecDepth 20000 in
theorem ggL_setPrice_X3_setPrice : GoodIn wsL_setPrice wsX3_setPrice := goodIn_ca (goodIn_ca (goodIn_r _ [7, 8, 9, 10, 11, 12, 6, 13, 14, 15, 16, 17, 18, 19, 20, 21, 22, 23, 24, 25, 26, 27, 28, 29, 30, 31, 32, 33] (by decide +kernel) (by decide +kernel)) (goodIn_sub (fun _ h => List.mem_cons_of_mem _ (List.mem_append_left _ (List.mem_append_right _ h))) (by decide +kernel))) (goodIn_sub (fun _ h => List.mem_cons_of_mem _ (List.mem_append_right _ h)) (by decide +kernel))
set_option maxRecDepth 20000 in
theorem gL_setPrice_X3_setPrice : GoodIn wsL_setPrice (wsV RL 15 RX3 yX3_setPrice wsX3_setPrice) := goodIn_app (goodIn_of _ (by decide +kernel)) ggL_setPrice_X3_setPrice
set_option maxRecDepth 20000 in
theorem ggL_setDemand_X3_setDemand : GoodIn wsL_setDemand wsX3_setDemand := goodIn_ca (goodIn_r _ [6, 7, 8, 9, 5, 10, 11, 12, 13, 14, 15, 16, 17, 18, 19, 20, 21, 22, 23, 24, 25, 26, 27] (by decide +kernel) (by decide +kernel)) (goodIn_sub (fun _ h => List.mem_cons_of_mem _ (List.mem_append_right _ h)) (by decide +kernel))
set_option maxRecDepth 20000 in
theorem gL_setDemand_X3_setDemand : GoodIn wsL_setDemand (wsV RL 21 RX3 yX3_setDemand wsX3_setDemand) := goodIn_app (goodIn_of _ (by decide +kernel)) ggL_setDemand_X3_setDemand
set_option maxRecDepth 20000 in
theorem ggL_setRules_X3_setRules : GoodIn wsL_setRules wsX3_setRules := goodIn_ca (goodIn_r _ [6, 7, 8, 9, 5, 10, 11, 12, 13, 14, 15, 16, 17, 18, 19, 20, 21, 22] (by decide +kernel) (by decide +kernel)) (goodIn_sub (fun _ h => List.mem_cons_of_mem _ (List.mem_append_right _ h)) (by decide +kernel))
set_option maxRecDepth 20000 in
theorem gL_setRules_X3_setRules : GoodIn wsL_setRules (wsV RL 25 RX3 yX3_setRules wsX3_setRules) := goodIn_app (goodIn_of _ (by decide +kernel)) ggL_setRules_X3_setRules
set_option maxRecDepth 20000 in
theorem ggL_put_X3_put : GoodIn wsL_put wsX3_put := goodIn_ca (goodIn_ca (goodIn_r _ [7, 8, 9, 10, 6, 11, 12, 13, 14, 15, 16, 17, 18, 19, 20, 21, 22, 23, 24, 25, 26, 27, 28, 29, 30, 31, 32, 33, 34, 35, 36, 37, 38] (by decide +kernel) (by decide +kernel)) (goodIn_sub (fun _ h => List.mem_cons_of_mem _ (List.mem_append_left _ (List.mem_append_right _ h))) (by decide +kernel))) (goodIn_sub (fun _ h => List.mem_cons_of_mem _ (List.mem_append_right _ h)) (by decide +kernel))
set_option maxRecDepth 20000 in
theorem gL_put_X3_put : GoodIn wsL_put (wsV RL 29 RX3 yX3_put wsX3_put) := goodIn_app (goodIn_of _ (by decide +kernel)) ggL_put_X3_put
set_option maxRecDepth 20000 in
theorem ggL_markDown_X3_markDown : GoodIn wsL_markDown wsX3_markDown := goodIn_ca (goodIn_ca (goodIn_r _ [7, 8, 9, 10, 11, 12, 13, 6, 14, 15, 16, 17, 18, 19, 20, 21, 22, 23, 24, 25, 26, 27, 28, 29, 30, 31, 32, 33, 34, 35, 36, 37, 38, 39, 40, 41, 42, 43, 44, 45, 46, 47, 48, 49, 50, 51] (by decide +kernel) (by decide +kernel)) (goodIn_sub (fun _ h => List.mem_cons_of_mem _ (List.mem_append_left _ (List.mem_append_right _ h))) (by decide +kernel))) (goodIn_sub (fun _ h => List.mem_cons_of_mem _ (List.mem_append_right _ h)) (by decide +kernel))
set_option maxRecDepth 20000 in
theorem gL_markDown_X3_markDown : GoodIn wsL_markDown (wsV RL 32 RX3 yX3_markDown wsX3_markDown) := goodIn_app (goodIn_of _ (by decide +kernel)) ggL_markDown_X3_markDown
set_option maxRecDepth 20000 in
theorem ggL_move_X3_move : GoodIn wsL_move wsX3_move := goodIn_ca (goodIn_ca (goodIn_r _ [7, 8, 9, 10, 11, 12, 13, 14, 15, 6, 16, 17, 18, 19, 20, 21, 22, 23, 24, 25, 26, 27, 28, 29, 30, 31, 32, 33, 34, 35, 36, 37, 38, 39, 40, 41, 42, 43, 44, 45, 46, 47, 48, 49, 50] (by decide +kernel) (by decide +kernel)) (goodIn_sub (fun _ h => List.mem_cons_of_mem _ (List.mem_append_left _ (List.mem_append_right _ h))) (by decide +kernel))) (goodIn_sub (fun _ h => List.mem_cons_of_mem _ (List.mem_append_right _ h)) (by decide +kernel))
set_option maxRecDepth 20000 in
theorem gL_move_X3_move : GoodIn wsL_move (wsV RL 35 RX3 yX3_move wsX3_move) := goodIn_app (goodIn_of _ (by decide +kernel)) ggL_move_X3_move
set_option maxRecDepth 20000 in
theorem ggL_run_X3_run : GoodIn wsL_run wsX3_run := goodIn_ca (goodIn_r _ [6, 7, 8, 9, 10, 11, 5, 12, 13, 14, 15, 16, 17, 18, 19, 20, 21, 22, 23, 24, 25, 26, 27, 28, 29, 30, 31, 32, 33, 34, 35, 36, 37, 38, 39, 40, 41, 42, 43, 44, 45, 46, 47, 48, 49, 50, 51, 52, 53, 54, 55, 56, 57] (by decide +kernel) (by decide +kernel)) (goodIn_sub (fun _ h => List.mem_cons_of_mem _ (List.mem_append_right _ h)) (by decide +kernel))
set_option maxRecDepth 20000 in
theorem gL_run_X3_run : GoodIn wsL_run (wsV RL 39 RX3 yX3_run wsX3_run) := goodIn_app (goodIn_of _ (by decide +kernel)) ggL_run_X3_run
set_option maxRecDepth 20000 in
theorem ggL_stock_X3_stock : GoodIn wsL_stock wsX3_stock := goodIn_ca (goodIn_r _ [6, 7, 8, 9, 5, 10, 11, 12, 13, 14, 15, 16, 17, 18, 19, 20, 21, 22, 23, 24, 25, 26, 27] (by decide +kernel) (by decide +kernel)) (goodIn_sub (fun _ h => List.mem_cons_of_mem _ (List.mem_append_right _ h)) (by decide +kernel))
set_option maxRecDepth 20000 in
theorem gL_stock_X3_stock : GoodIn wsL_stock (wsV RL 43 RX3 yX3_stock wsX3_stock) := goodIn_app (goodIn_of _ (by decide +kernel)) ggL_stock_X3_stock
set_option maxRecDepth 20000 in
theorem ggL_step_X3_step : GoodIn wsL_step wsX3_step := goodIn_ca (goodIn_r _ [6, 7, 8, 9, 5, 10, 11, 12, 13, 14, 15, 16, 17, 18, 19, 20, 21, 22, 23, 24] (by decide +kernel) (by decide +kernel)) (goodIn_sub (fun _ h => List.mem_cons_of_mem _ (List.mem_append_right _ h)) (by decide +kernel))
set_option maxRecDepth 20000 in
theorem gL_step_X3_step : GoodIn wsL_step (wsV RL 46 RX3 yX3_step wsX3_step) := goodIn_app (goodIn_of _ (by decide +kernel)) ggL_step_X3_step
set_option maxRecDepth 20000 in
theorem ggL_weeksToWait_X3_weeksToWait : GoodIn wsL_weeksToWait wsX3_weeksToWait := goodIn_ca (goodIn_r _ [6, 7, 8, 9, 10, 5, 11, 12, 13, 14, 15, 16, 17, 18, 19, 20, 21, 22, 23, 24, 25, 26, 27, 28, 29, 30, 31, 32, 33, 34, 35, 36, 37, 38, 39, 40, 41] (by decide +kernel) (by decide +kernel)) (goodIn_sub (fun _ h => List.mem_cons_of_mem _ (List.mem_append_right _ h)) (by decide +kernel))
set_option maxRecDepth 20000 in
theorem gL_weeksToWait_X3_weeksToWait : GoodIn wsL_weeksToWait (wsV RL 49 RX3 yX3_weeksToWait wsX3_weeksToWait) := goodIn_app (goodIn_of _ (by decide +kernel)) ggL_weeksToWait_X3_weeksToWait
set_option maxRecDepth 20000 in
theorem ggL_sold_X3_sold : GoodIn wsL_sold wsX3_sold := goodIn_ca (goodIn_r _ [6, 7, 8, 9, 5, 10, 11, 12, 13, 14, 15, 16, 17, 18, 19, 20, 21, 22, 23, 24] (by decide +kernel) (by decide +kernel)) (goodIn_sub (fun _ h => List.mem_cons_of_mem _ (List.mem_append_right _ h)) (by decide +kernel))
set_option maxRecDepth 20000 in
theorem gL_sold_X3_sold : GoodIn wsL_sold (wsV RL 52 RX3 yX3_sold wsX3_sold) := goodIn_app (goodIn_of _ (by decide +kernel)) ggL_sold_X3_sold
set_option maxRecDepth 20000 in
theorem ggL_wouldSell_X3_wouldSell : GoodIn wsL_wouldSell wsX3_wouldSell := goodIn_ca (goodIn_r _ [6, 7, 8, 9, 5, 10, 11, 12, 13, 14, 15, 16, 17, 18, 19, 20, 21, 22, 23, 24, 25, 26, 27, 28, 29, 30, 31, 32, 33, 34, 35, 36, 37, 38, 39, 40, 41, 42, 43, 44, 45] (by decide +kernel) (by decide +kernel)) (goodIn_sub (fun _ h => List.mem_cons_of_mem _ (List.mem_append_right _ h)) (by decide +kernel))
set_option maxRecDepth 20000 in
theorem gL_wouldSell_X3_wouldSell : GoodIn wsL_wouldSell (wsV RL 55 RX3 yX3_wouldSell wsX3_wouldSell) := goodIn_app (goodIn_of _ (by decide +kernel)) ggL_wouldSell_X3_wouldSell
set_option maxRecDepth 20000 in
theorem ggL_best_X3_best : GoodIn wsL_best wsX3_best := goodIn_ca (goodIn_r _ [6, 7, 8, 9, 10, 11, 5, 12, 13, 14, 15, 16, 17, 18, 19, 20, 21, 22, 23, 24, 25, 26, 27, 28, 29, 30, 31, 32, 33, 34, 35, 36, 37, 38, 39, 40, 41, 42, 43, 44, 45, 46, 47, 48, 49, 50, 51, 52, 53, 54, 55, 56, 57, 58, 59, 60, 61, 62, 63, 64, 65, 66, 67, 68, 69, 70, 71, 72, 73, 74, 75, 76, 77, 78, 79, 80, 81, 82, 83, 84, 85, 86, 87, 88, 89, 90, 91, 92, 93, 94, 95, 96, 97, 98, 99, 100, 101, 102, 103, 104, 105, 106, 107] (by decide +kernel) (by decide +kernel)) (goodIn_sub (fun _ h => List.mem_cons_of_mem _ (List.mem_append_right _ h)) (by decide +kernel))
set_option maxRecDepth 20000 in
theorem gL_best_X3_best : GoodIn wsL_best (wsV RL 58 RX3 yX3_best wsX3_best) := goodIn_app (goodIn_of _ (by decide +kernel)) ggL_best_X3_best
set_option maxRecDepth 20000 in
theorem ggL_bestByAll_X3_bestByAll : GoodIn wsL_bestByAll wsX3_bestByAll := goodIn_ca (goodIn_ca (goodIn_r _ [7, 8, 9, 10, 11, 12, 13, 14, 6, 15, 16, 17, 18, 19, 20, 21, 22, 23, 24, 25, 26, 27, 28, 29, 30, 31, 32, 33, 34, 35, 36, 37, 38, 39, 40, 41, 42, 43, 44, 45, 46, 47, 48, 49, 50, 51, 52, 53, 54, 55, 56, 57, 58, 59, 60, 61, 62, 63, 64, 65, 66, 67, 68, 69, 70, 71, 72, 73, 74, 75, 76, 77, 78, 79, 80, 81, 82, 83, 84, 85, 86, 87, 88, 89, 90, 91, 92, 93, 94, 95] (by decide +kernel) (by decide +kernel)) (goodIn_sub (fun _ h => List.mem_cons_of_mem _ (List.mem_append_left _ (List.mem_append_right _ h))) (by decide +kernel))) (goodIn_sub (fun _ h => List.mem_cons_of_mem _ (List.mem_append_right _ h)) (by decide +kernel))
set_option maxRecDepth 20000 in
theorem gL_bestByAll_X3_bestByAll : GoodIn wsL_bestByAll (wsV RL 61 RX3 yX3_bestByAll wsX3_bestByAll) := goodIn_app (goodIn_of _ (by decide +kernel)) ggL_bestByAll_X3_bestByAll
set_option maxRecDepth 20000 in
theorem ggL_planned_X3_planned : GoodIn wsL_planned wsX3_planned := goodIn_ca (goodIn_r _ [6, 7, 8, 9, 10, 11, 5, 12, 13, 14, 15, 16, 17, 18, 19, 20, 21, 22, 23, 24, 25, 26, 27, 28, 29, 30, 31, 32, 33, 34, 35, 36, 37, 38, 39, 40, 41, 42, 43, 44, 45, 46, 47, 48, 49, 50, 51, 52, 53, 54, 55, 56, 57, 58, 59, 60, 61, 62, 63, 64, 65, 66, 67, 68, 69, 70, 71, 72, 73, 74, 75, 76, 77, 78, 79, 80, 81, 82, 83, 84, 85, 86, 87, 88, 89, 90, 91, 92, 93, 94, 95, 96, 97, 98, 99, 100, 101, 102, 103, 104, 105, 106, 107, 108, 109, 110, 111] (by decide +kernel) (by decide +kernel)) (goodIn_sub (fun _ h => List.mem_cons_of_mem _ (List.mem_append_right _ h)) (by decide +kernel))
set_option maxRecDepth 20000 in
theorem gL_planned_X3_planned : GoodIn wsL_planned (wsV RL 64 RX3 yX3_planned wsX3_planned) := goodIn_app (goodIn_of _ (by decide +kernel)) ggL_planned_X3_planned
set_option maxRecDepth 20000 in
theorem ggL_bestLeaving_X3_bestLeaving : GoodIn wsL_bestLeaving wsX3_bestLeaving := goodIn_ca (goodIn_r _ [6, 7, 8, 9, 10, 11, 5, 12, 13, 14, 15, 16, 17, 18, 19, 20, 21, 22, 23, 24, 25, 26, 27, 28, 29, 30, 31, 32, 33, 34, 35, 36, 37, 38, 39, 40, 41, 42, 43, 44, 45, 46, 47, 48, 49, 50, 51, 52, 53, 54, 55, 56, 57, 58, 59, 60, 61, 62, 63, 64, 65, 66, 67, 68, 69, 70, 71, 72, 73, 74, 75, 76, 77, 78, 79, 80, 81, 82, 83, 84, 85, 86, 87, 88, 89, 90, 91, 92, 93, 94, 95, 96, 97, 98, 99, 100, 101, 102, 103, 104, 105, 106, 107] (by decide +kernel) (by decide +kernel)) (goodIn_sub (fun _ h => List.mem_cons_of_mem _ (List.mem_append_right _ h)) (by decide +kernel))
set_option maxRecDepth 20000 in
theorem gL_bestLeaving_X3_bestLeaving : GoodIn wsL_bestLeaving (wsV RL 67 RX3 yX3_bestLeaving wsX3_bestLeaving) := goodIn_app (goodIn_of _ (by decide +kernel)) ggL_bestLeaving_X3_bestLeaving
set_option maxRecDepth 20000 in
theorem ggL_law_X3_init : GoodIn wsL_law wsX3_init := goodIn_r _ [9, 10, 11, 12, 13, 14, 15, 16, 17, 18, 19, 20, 21, 22, 23, 24, 25, 26, 27, 28, 29, 30, 31, 32, 33, 34, 35, 36, 37, 38, 39, 40, 41, 42, 43, 44, 465, 466, 467, 468, 469, 470, 471, 448, 449, 450, 472, 473, 474, 475, 476, 477, 478, 479, 480, 481, 482, 483, 484, 485, 486, 487, 488] (by decide +kernel) (by decide +kernel)
set_option maxRecDepth 20000 in
theorem gL_law_X3_init : GoodIn wsL_law (wsX3_init) := ggL_law_X3_init
set_option maxRecDepth 20000 in
theorem ggL_law_X4_init : GoodIn wsL_law wsX4_init := goodIn_r _ [47, 48, 11, 12, 49, 28, 50, 51, 52, 53, 54, 55, 56, 57, 451, 452, 453, 454, 455, 456, 457, 458, 459, 460, 461, 462, 463, 464] (by decide +kernel) (by decide +kernel)
set_option maxRecDepth 20000 in
theorem gL_law_X4_init : GoodIn wsL_law (wsX4_init) := ggL_law_X4_init
set_option maxRecDepth 20000 in
theorem ggL_law_L_begin : GoodIn wsL_law wsL_begin := goodIn_ca (goodIn_r _ [61, 62, 63, 64, 65, 2, 66, 16, 18, 67, 68, 69, 70, 71, 72, 15, 73, 74, 30, 75, 76, 77, 24, 78, 79, 80, 44, 81, 448, 449, 450, 465, 466, 467, 468, 469, 470, 471, 484, 485, 486, 487, 488] (by decide +kernel) (by decide +kernel)) (goodIn_sub (fun _ h => List.mem_append_left _ (List.mem_append_right _ h)) (by decide +kernel))
set_option maxRecDepth 20000 in
theorem gL_law_L_begin : GoodIn wsL_law (va_wsS RL 74 yL_begin wsL_begin) := goodIn_app (goodIn_of _ (by decide +kernel)) ggL_law_L_begin
set_option maxRecDepth 20000 in
theorem ggL_law_X4_begin : GoodIn wsL_law wsX4_begin := goodIn_r _ [85, 86, 49, 87, 54, 55, 56, 88, 89, 5, 90, 91, 92, 93, 94, 95, 451, 452, 453, 454, 455, 456, 457, 458, 459, 460, 461, 462, 463, 464] (by decide +kernel) (by decide +kernel)
set_option maxRecDepth 20000 in
theorem gL_law_X4_begin : GoodIn wsL_law (wsV RL 79 RX4 yX4_begin wsX4_begin) := goodIn_app (goodIn_of _ (by decide +kernel)) ggL_law_X4_begin
set_option maxRecDepth 20000 in
theorem ggL_law_X4_thrown : GoodIn wsL_law wsX4_thrown := goodIn_r _ [99, 95, 451, 452, 453, 454, 455, 456, 457, 458, 459, 460, 461, 462, 463, 464] (by decide +kernel) (by decide +kernel)
set_option maxRecDepth 20000 in
theorem gL_law_X4_thrown : GoodIn wsL_law (wsV RL 80 RX4 yX4_thrown wsX4_thrown) := goodIn_app (goodIn_of _ (by decide +kernel)) ggL_law_X4_thrown
set_option maxRecDepth 20000 in
theorem ggL_law_L_setPrice : GoodIn wsL_law wsL_setPrice := goodIn_ca (goodIn_ca (goodIn_r _ [102, 62, 103, 104, 105, 106, 2, 107, 108, 109, 16, 110, 111, 112, 67, 68, 69, 70, 71, 113, 15, 114, 115, 29, 448, 449, 450, 465, 466, 467, 468, 469, 470, 471] (by decide +kernel) (by decide +kernel)) (goodIn_sub (fun _ h => List.mem_append_right _ h) (by decide +kernel))) (goodIn_sub (fun _ h => List.mem_append_left _ (List.mem_append_right _ h)) (by decide +kernel))
set_option maxRecDepth 20000 in
theorem gL_law_L_setPrice : GoodIn wsL_law (va_wsS RL 83 yL_setPrice wsL_setPrice) := goodIn_app (goodIn_of _ (by decide +kernel)) ggL_law_L_setPrice
set_option maxRecDepth 20000 in
theorem ggL_law_X4_setPrice : GoodIn wsL_law wsX4_setPrice := goodIn_r _ [119, 50, 120, 121, 5, 122, 88, 89, 90, 123, 124, 125, 126, 95, 451, 452, 453, 454, 455, 456, 457, 458, 459, 460, 461, 462, 463, 464] (by decide +kernel) (by decide +kernel)
set_option maxRecDepth 20000 in
theorem gL_law_X4_setPrice : GoodIn wsL_law (wsV RL 86 RX4 yX4_setPrice wsX4_setPrice) := goodIn_app (goodIn_of _ (by decide +kernel)) ggL_law_X4_setPrice
set_option maxRecDepth 20000 in
theorem ggL_law_L_setDemand : GoodIn wsL_law wsL_setDemand := goodIn_ca (goodIn_r _ [129, 62, 130, 131, 132, 2, 133, 134, 135, 136, 137, 18, 67, 68, 69, 70, 71, 110, 111, 112, 484, 485, 486, 487, 488, 448, 449, 450] (by decide +kernel) (by decide +kernel)) (goodIn_sub (fun _ h => List.mem_append_left _ (List.mem_append_right _ h)) (by decide +kernel))
set_option maxRecDepth 20000 in
theorem gL_law_L_setDemand : GoodIn wsL_law (va_wsS RL 87 yL_setDemand wsL_setDemand) := goodIn_app (goodIn_of _ (by decide +kernel)) ggL_law_L_setDemand
set_option maxRecDepth 20000 in
theorem ggL_law_X4_setDemand : GoodIn wsL_law wsX4_setDemand := goodIn_r _ [141, 51, 142, 143, 5, 144, 88, 89, 90, 120, 121, 122, 91, 92, 93, 94, 95, 451, 452, 453, 454, 455, 456, 457, 458, 459, 460, 461, 462, 463, 464] (by decide +kernel) (by decide +kernel)
set_option maxRecDepth 20000 in
theorem gL_law_X4_setDemand : GoodIn wsL_law (wsV RL 90 RX4 yX4_setDemand wsX4_setDemand) := goodIn_app (goodIn_of _ (by decide +kernel)) ggL_law_X4_setDemand
set_option maxRecDepth 20000 in
theorem ggL_law_L_setRules : GoodIn wsL_law wsL_setRules := goodIn_ca (goodIn_r _ [147, 62, 148, 149, 150, 2, 151, 16, 67, 68, 69, 70, 71, 448, 449, 450, 465, 466, 467, 468, 469, 470, 471] (by decide +kernel) (by decide +kernel)) (goodIn_sub (fun _ h => List.mem_append_left _ (List.mem_append_right _ h)) (by decide +kernel))
set_option maxRecDepth 20000 in
theorem gL_law_L_setRules : GoodIn wsL_law (va_wsS RL 91 yL_setRules wsL_setRules) := goodIn_app (goodIn_of _ (by decide +kernel)) ggL_law_L_setRules
set_option maxRecDepth 20000 in
theorem ggL_law_X4_setRules : GoodIn wsL_law wsX4_setRules := goodIn_r _ [155, 52, 156, 157, 88, 89, 5, 90, 91, 92, 93, 94, 95, 451, 452, 453, 454, 455, 456, 457, 458, 459, 460, 461, 462, 463, 464] (by decide +kernel) (by decide +kernel)
set_option maxRecDepth 20000 in
theorem gL_law_X4_setRules : GoodIn wsL_law (wsV RL 94 RX4 yX4_setRules wsX4_setRules) := goodIn_app (goodIn_of _ (by decide +kernel)) ggL_law_X4_setRules
set_option maxRecDepth 20000 in
theorem ggL_law_L_put : GoodIn wsL_law wsL_put := goodIn_ca (goodIn_ca (goodIn_r _ [160, 62, 103, 161, 162, 163, 2, 164, 134, 135, 136, 137, 18, 67, 68, 69, 70, 71, 165, 166, 167, 168, 169, 170, 108, 109, 171, 24, 172, 173, 43, 484, 485, 486, 487, 488, 448, 449, 450] (by decide +kernel) (by decide +kernel)) (goodIn_sub (fun _ h => List.mem_append_left _ (List.mem_append_right _ h)) (by decide +kernel))) (goodIn_sub (fun _ h => List.mem_append_right _ h) (by decide +kernel))
set_option maxRecDepth 20000 in
theorem gL_law_L_put : GoodIn wsL_law (va_wsS RL 95 yL_put wsL_put) := goodIn_app (goodIn_of _ (by decide +kernel)) ggL_law_L_put
set_option maxRecDepth 20000 in
theorem ggL_law_X4_put : GoodIn wsL_law wsX4_put := goodIn_r _ [177, 53, 142, 143, 5, 144, 88, 89, 90, 178, 179, 180, 181, 182, 183, 184, 123, 124, 125, 126, 95, 451, 452, 453, 454, 455, 456, 457, 458, 459, 460, 461, 462, 463, 464] (by decide +kernel) (by decide +kernel)
set_option maxRecDepth 20000 in
theorem gL_law_X4_put : GoodIn wsL_law (wsV RL 97 RX4 yX4_put wsX4_put) := goodIn_app (goodIn_of _ (by decide +kernel)) ggL_law_X4_put
set_option maxRecDepth 20000 in
theorem ggL_law_L_markDown : GoodIn wsL_law wsL_markDown := goodIn_ca (goodIn_ca (goodIn_r _ [187, 62, 103, 188, 189, 190, 2, 191, 108, 109, 16, 134, 135, 136, 137, 18, 67, 68, 69, 70, 71, 110, 111, 112, 192, 193, 194, 195, 196, 24, 197, 198, 44, 199, 200, 201, 202, 484, 485, 486, 487, 488, 448, 449, 450, 465, 466, 467, 468, 469, 470, 471] (by decide +kernel) (by decide +kernel)) (goodIn_sub (fun _ h => List.mem_append_right _ h) (by decide +kernel))) (goodIn_sub (fun _ h => List.mem_append_left _ (List.mem_append_right _ h)) (by decide +kernel))
set_option maxRecDepth 20000 in
theorem gL_law_L_markDown : GoodIn wsL_law (va_wsS RL 98 yL_markDown wsL_markDown) := goodIn_app (goodIn_of _ (by decide +kernel)) ggL_law_L_markDown
set_option maxRecDepth 20000 in
theorem ggL_law_X4_markDown : GoodIn wsL_law wsX4_markDown := goodIn_r _ [206, 86, 49, 54, 55, 50, 142, 143, 5, 144, 88, 89, 90, 120, 121, 122, 207, 208, 209, 210, 52, 123, 124, 125, 126, 95, 451, 452, 453, 454, 455, 456, 457, 458, 459, 460, 461, 462, 463, 464] (by decide +kernel) (by decide +kernel)
set_option maxRecDepth 20000 in
theorem gL_law_X4_markDown : GoodIn wsL_law (wsV RL 100 RX4 yX4_markDown wsX4_markDown) := goodIn_app (goodIn_of _ (by decide +kernel)) ggL_law_X4_markDown
set_option maxRecDepth 20000 in
theorem ggL_law_L_move : GoodIn wsL_law wsL_move := goodIn_ca (goodIn_ca (goodIn_r _ [213, 62, 103, 214, 215, 216, 2, 217, 70, 71, 108, 109, 16, 134, 135, 136, 137, 18, 67, 68, 69, 165, 166, 167, 192, 193, 194, 195, 168, 169, 170, 171, 24, 172, 173, 43, 484, 485, 486, 487, 488, 448, 449, 450, 465, 466, 467, 468, 469, 470, 471] (by decide +kernel) (by decide +kernel)) (goodIn_sub (fun _ h => List.mem_append_left _ (List.mem_append_right _ h)) (by decide +kernel))) (goodIn_sub (fun _ h => List.mem_append_right _ h) (by decide +kernel))
set_option maxRecDepth 20000 in
theorem gL_law_L_move : GoodIn wsL_law (va_wsS RL 101 yL_move wsL_move) := goodIn_app (goodIn_of _ (by decide +kernel)) ggL_law_L_move
set_option maxRecDepth 20000 in
theorem ggL_law_X4_move : GoodIn wsL_law wsX4_move := goodIn_r _ [221, 86, 49, 53, 87, 157, 142, 143, 5, 144, 88, 89, 90, 178, 179, 180, 181, 182, 183, 184, 123, 124, 125, 126, 95, 451, 452, 453, 454, 455, 456, 457, 458, 459, 460, 461, 462, 463, 464] (by decide +kernel) (by decide +kernel)
set_option maxRecDepth 20000 in
theorem gL_law_X4_move : GoodIn wsL_law (wsV RL 104 RX4 yX4_move wsX4_move) := goodIn_app (goodIn_of _ (by decide +kernel)) ggL_law_X4_move
set_option maxRecDepth 20000 in
theorem ggL_law_L_run : GoodIn wsL_law wsL_run := goodIn_ca (goodIn_r _ [224, 103, 225, 226, 227, 2, 228, 18, 16, 192, 193, 194, 195, 108, 109, 229, 24, 230, 231, 80, 43, 81, 232, 233, 234, 235, 42, 236, 237, 201, 238, 239, 240, 241, 242, 243, 171, 172, 173, 244, 245, 246, 247, 448, 449, 450, 465, 466, 467, 468, 469, 470, 471, 484, 485, 486, 487, 488] (by decide +kernel) (by decide +kernel)) (goodIn_sub (fun _ h => List.mem_append_right _ h) (by decide +kernel))
set_option maxRecDepth 20000 in
theorem gL_law_L_run : GoodIn wsL_law (va_wsS RL 105 yL_run wsL_run) := goodIn_app (goodIn_of _ (by decide +kernel)) ggL_law_L_run
set_option maxRecDepth 20000 in
theorem ggL_law_X4_run : GoodIn wsL_law wsX4_run := goodIn_r _ [251, 86, 49, 54, 53, 56, 50, 87, 91, 92, 93, 5, 94, 95, 252, 253, 254, 255, 51, 181, 182, 183, 184, 451, 452, 453, 454, 455, 456, 457, 458, 459, 460, 461, 462, 463, 464] (by decide +kernel) (by decide +kernel)
set_option maxRecDepth 20000 in
theorem gL_law_X4_run : GoodIn wsL_law (wsV RL 108 RX4 yX4_run wsX4_run) := goodIn_app (goodIn_of _ (by decide +kernel)) ggL_law_X4_run
set_option maxRecDepth 20000 in
theorem ggL_law_X3_week : GoodIn wsL_law wsX3_week := goodIn_r _ [259, 16, 448, 449, 450, 465, 466, 467, 468, 469, 470, 471] (by decide +kernel) (by decide +kernel)
set_option maxRecDepth 20000 in
theorem gL_law_X3_week : GoodIn wsL_law (wsV RL 109 RX3 yX3_week wsX3_week) := goodIn_app (goodIn_of _ (by decide +kernel)) ggL_law_X3_week
set_option maxRecDepth 20000 in
theorem ggL_law_X4_week : GoodIn wsL_law wsX4_week := goodIn_r _ [263, 86, 264, 265, 266, 5, 267, 95, 451, 452, 453, 454, 455, 456, 457, 458, 459, 460, 461, 462, 463, 464] (by decide +kernel) (by decide +kernel)
set_option maxRecDepth 20000 in
theorem gL_law_X4_week : GoodIn wsL_law (wsV RL 112 RX4 yX4_week wsX4_week) := goodIn_app (goodIn_of _ (by decide +kernel)) ggL_law_X4_week
set_option maxRecDepth 20000 in
theorem ggL_law_L_stock : GoodIn wsL_law wsL_stock := goodIn_ca (goodIn_r _ [270, 62, 271, 272, 273, 2, 274, 134, 135, 136, 137, 18, 67, 68, 69, 70, 71, 165, 166, 167, 484, 485, 486, 487, 488, 448, 449, 450] (by decide +kernel) (by decide +kernel)) (goodIn_sub (fun _ h => List.mem_append_left _ (List.mem_append_right _ h)) (by decide +kernel))
set_option maxRecDepth 20000 in
theorem gL_law_L_stock : GoodIn wsL_law (va_wsS RL 113 yL_stock wsL_stock) := goodIn_app (goodIn_of _ (by decide +kernel)) ggL_law_L_stock
set_option maxRecDepth 20000 in
theorem ggL_law_X4_stock : GoodIn wsL_law wsX4_stock := goodIn_r _ [278, 53, 142, 143, 5, 144, 88, 89, 90, 178, 179, 180, 91, 92, 93, 94, 95, 451, 452, 453, 454, 455, 456, 457, 458, 459, 460, 461, 462, 463, 464] (by decide +kernel) (by decide +kernel)
set_option maxRecDepth 20000 in
theorem gL_law_X4_stock : GoodIn wsL_law (wsV RL 115 RX4 yX4_stock wsX4_stock) := goodIn_app (goodIn_of _ (by decide +kernel)) ggL_law_X4_stock
set_option maxRecDepth 20000 in
theorem ggL_law_L_step : GoodIn wsL_law wsL_step := goodIn_ca (goodIn_r _ [281, 62, 282, 283, 284, 2, 285, 134, 135, 136, 137, 18, 67, 68, 69, 70, 71, 484, 485, 486, 487, 488, 448, 449, 450] (by decide +kernel) (by decide +kernel)) (goodIn_sub (fun _ h => List.mem_append_left _ (List.mem_append_right _ h)) (by decide +kernel))
set_option maxRecDepth 20000 in
theorem gL_law_L_step : GoodIn wsL_law (va_wsS RL 116 yL_step wsL_step) := goodIn_app (goodIn_of _ (by decide +kernel)) ggL_law_L_step
set_option maxRecDepth 20000 in
theorem ggL_law_X4_step : GoodIn wsL_law wsX4_step := goodIn_r _ [289, 54, 142, 143, 5, 144, 88, 89, 90, 91, 92, 93, 94, 95, 451, 452, 453, 454, 455, 456, 457, 458, 459, 460, 461, 462, 463, 464] (by decide +kernel) (by decide +kernel)
set_option maxRecDepth 20000 in
theorem gL_law_X4_step : GoodIn wsL_law (wsV RL 118 RX4 yX4_step wsX4_step) := goodIn_app (goodIn_of _ (by decide +kernel)) ggL_law_X4_step
set_option maxRecDepth 20000 in
theorem ggL_law_L_weeksToWait : GoodIn wsL_law wsL_weeksToWait := goodIn_ca (goodIn_r _ [292, 62, 293, 294, 295, 2, 296, 16, 134, 135, 136, 137, 18, 67, 68, 69, 70, 71, 196, 24, 197, 198, 44, 199, 200, 201, 202, 448, 449, 450, 465, 466, 467, 468, 469, 470, 471, 484, 485, 486, 487, 488] (by decide +kernel) (by decide +kernel)) (goodIn_sub (fun _ h => List.mem_append_left _ (List.mem_append_right _ h)) (by decide +kernel))
set_option maxRecDepth 20000 in
theorem gL_law_L_weeksToWait : GoodIn wsL_law (va_wsS RL 119 yL_weeksToWait wsL_weeksToWait) := goodIn_app (goodIn_of _ (by decide +kernel)) ggL_law_L_weeksToWait
set_option maxRecDepth 20000 in
theorem ggL_law_X4_weeksToWait : GoodIn wsL_law wsX4_weeksToWait := goodIn_r _ [300, 142, 143, 5, 144, 88, 89, 90, 91, 92, 93, 94, 95, 207, 208, 209, 210, 55, 52, 86, 451, 452, 453, 454, 455, 456, 457, 458, 459, 460, 461, 462, 463, 464] (by decide +kernel) (by decide +kernel)
set_option maxRecDepth 20000 in
theorem gL_law_X4_weeksToWait : GoodIn wsL_law (wsV RL 121 RX4 yX4_weeksToWait wsX4_weeksToWait) := goodIn_app (goodIn_of _ (by decide +kernel)) ggL_law_X4_weeksToWait
set_option maxRecDepth 20000 in
theorem ggL_law_L_sold : GoodIn wsL_law wsL_sold := goodIn_ca (goodIn_r _ [303, 62, 304, 305, 306, 2, 307, 134, 135, 136, 137, 18, 67, 68, 69, 70, 71, 484, 485, 486, 487, 488, 448, 449, 450] (by decide +kernel) (by decide +kernel)) (goodIn_sub (fun _ h => List.mem_append_left _ (List.mem_append_right _ h)) (by decide +kernel))
set_option maxRecDepth 20000 in
theorem gL_law_L_sold : GoodIn wsL_law (va_wsS RL 122 yL_sold wsL_sold) := goodIn_app (goodIn_of _ (by decide +kernel)) ggL_law_L_sold
set_option maxRecDepth 20000 in
theorem ggL_law_X4_sold : GoodIn wsL_law wsX4_sold := goodIn_r _ [311, 56, 142, 143, 5, 144, 88, 89, 90, 91, 92, 93, 94, 95, 451, 452, 453, 454, 455, 456, 457, 458, 459, 460, 461, 462, 463, 464] (by decide +kernel) (by decide +kernel)
set_option maxRecDepth 20000 in
theorem gL_law_X4_sold : GoodIn wsL_law (wsV RL 124 RX4 yX4_sold wsX4_sold) := goodIn_app (goodIn_of _ (by decide +kernel)) ggL_law_X4_sold
set_option maxRecDepth 20000 in
theorem ggL_law_X3_taken : GoodIn wsL_law wsX3_taken := goodIn_r _ [315, 16, 448, 449, 450, 465, 466, 467, 468, 469, 470, 471] (by decide +kernel) (by decide +kernel)
set_option maxRecDepth 20000 in
theorem gL_law_X3_taken : GoodIn wsL_law (wsV RL 125 RX3 yX3_taken wsX3_taken) := goodIn_app (goodIn_of _ (by decide +kernel)) ggL_law_X3_taken
set_option maxRecDepth 20000 in
theorem ggL_law_X4_taken : GoodIn wsL_law wsX4_taken := goodIn_r _ [319, 87, 264, 265, 266, 5, 267, 95, 451, 452, 453, 454, 455, 456, 457, 458, 459, 460, 461, 462, 463, 464] (by decide +kernel) (by decide +kernel)
set_option maxRecDepth 20000 in
theorem gL_law_X4_taken : GoodIn wsL_law (wsV RL 128 RX4 yX4_taken wsX4_taken) := goodIn_app (goodIn_of _ (by decide +kernel)) ggL_law_X4_taken
set_option maxRecDepth 20000 in
theorem ggL_law_L_wouldSell : GoodIn wsL_law wsL_wouldSell := goodIn_ca (goodIn_r _ [322, 62, 323, 324, 325, 2, 326, 134, 135, 136, 137, 18, 67, 68, 69, 70, 71, 110, 111, 112, 233, 24, 234, 235, 42, 236, 237, 201, 238, 239, 240, 241, 242, 43, 243, 171, 172, 173, 448, 449, 450, 484, 485, 486, 487, 488] (by decide +kernel) (by decide +kernel)) (goodIn_sub (fun _ h => List.mem_append_left _ (List.mem_append_right _ h)) (by decide +kernel))
set_option maxRecDepth 20000 in
theorem gL_law_L_wouldSell : GoodIn wsL_law (va_wsS RL 129 yL_wouldSell wsL_wouldSell) := goodIn_app (goodIn_of _ (by decide +kernel)) ggL_law_L_wouldSell
set_option maxRecDepth 20000 in
theorem ggL_law_X4_wouldSell : GoodIn wsL_law wsX4_wouldSell := goodIn_r _ [330, 142, 143, 5, 144, 88, 89, 90, 120, 121, 122, 91, 92, 93, 94, 95, 252, 253, 254, 255, 53, 51, 181, 182, 183, 184, 451, 452, 453, 454, 455, 456, 457, 458, 459, 460, 461, 462, 463, 464] (by decide +kernel) (by decide +kernel)
set_option maxRecDepth 20000 in
theorem gL_law_X4_wouldSell : GoodIn wsL_law (wsV RL 131 RX4 yX4_wouldSell wsX4_wouldSell) := goodIn_app (goodIn_of _ (by decide +kernel)) ggL_law_X4_wouldSell
set_option maxRecDepth 20000 in
theorem ggL_law_L_best : GoodIn wsL_law wsL_best := goodIn_ca (goodIn_r _ [333, 62, 334, 335, 336, 2, 337, 22, 16, 134, 135, 136, 137, 18, 67, 68, 69, 70, 71, 338, 21, 339, 340, 35, 341, 342, 343, 344, 36, 345, 346, 347, 348, 349, 237, 201, 238, 350, 351, 352, 196, 24, 197, 198, 44, 199, 200, 202, 171, 172, 173, 43, 353, 354, 355, 356, 357, 358, 359, 360, 37, 361, 362, 363, 364, 365, 366, 367, 368, 369, 370, 371, 372, 373, 374, 375, 376, 377, 378, 379, 380, 448, 449, 450, 465, 466, 467, 468, 469, 470, 471, 472, 473, 474, 475, 476, 477, 478, 479, 480, 481, 482, 483, 484, 485, 486, 487, 488] (by decide +kernel) (by decide +kernel)) (goodIn_sub (fun _ h => List.mem_append_left _ (List.mem_append_right _ h)) (by decide +kernel))
set_option maxRecDepth 20000 in
theorem gL_law_L_best : GoodIn wsL_law (va_wsS RL 132 yL_best wsL_best) := goodIn_app (goodIn_of _ (by decide +kernel)) ggL_law_L_best
set_option maxRecDepth 20000 in
theorem ggL_law_X4_best : GoodIn wsL_law wsX4_best := goodIn_r _ [384, 142, 143, 5, 144, 88, 89, 90, 91, 92, 93, 94, 95, 385, 386, 387, 388, 57, 49, 156, 86, 54, 389, 390, 391, 392, 51, 52, 50, 393, 394, 395, 207, 208, 209, 210, 55, 181, 182, 183, 184, 53, 451, 452, 453, 454, 455, 456, 457, 458, 459, 460, 461, 462, 463, 464] (by decide +kernel) (by decide +kernel)
set_option maxRecDepth 20000 in
theorem gL_law_X4_best : GoodIn wsL_law (wsV RL 134 RX4 yX4_best wsX4_best) := goodIn_app (goodIn_of _ (by decide +kernel)) ggL_law_X4_best
set_option maxRecDepth 20000 in
theorem ggL_law_L_bestByAll : GoodIn wsL_law wsL_bestByAll := goodIn_ca (goodIn_ca (goodIn_r _ [398, 62, 103, 399, 400, 401, 2, 402, 108, 109, 16, 22, 134, 135, 136, 137, 18, 67, 68, 69, 70, 71, 338, 21, 339, 340, 35, 341, 342, 343, 344, 36, 345, 346, 347, 348, 349, 237, 201, 238, 350, 351, 352, 196, 24, 197, 198, 44, 199, 200, 202, 171, 172, 173, 43, 403, 404, 405, 38, 406, 368, 407, 408, 409, 410, 411, 412, 413, 414, 448, 449, 450, 465, 466, 467, 468, 469, 470, 471, 472, 473, 474, 475, 476, 477, 478, 479, 480, 481, 482, 483, 484, 485, 486, 487, 488] (by decide +kernel) (by decide +kernel)) (goodIn_sub (fun _ h => List.mem_append_right _ h) (by decide +kernel))) (goodIn_sub (fun _ h => List.mem_append_left _ (List.mem_append_right _ h)) (by decide +kernel))
set_option maxRecDepth 20000 in
theorem gL_law_L_bestByAll : GoodIn wsL_law (va_wsS RL 135 yL_bestByAll wsL_bestByAll) := goodIn_app (goodIn_of _ (by decide +kernel)) ggL_law_L_bestByAll
set_option maxRecDepth 20000 in
theorem ggL_law_X4_bestByAll : GoodIn wsL_law wsX4_bestByAll := goodIn_r _ [418, 49, 86, 142, 143, 5, 144, 88, 89, 90, 123, 124, 125, 126, 95, 385, 386, 387, 388, 57, 156, 54, 389, 390, 391, 392, 51, 52, 50, 393, 394, 395, 207, 208, 209, 210, 55, 181, 182, 183, 184, 53, 451, 452, 453, 454, 455, 456, 457, 458, 459, 460, 461, 462, 463, 464] (by decide +kernel) (by decide +kernel)
set_option maxRecDepth 20000 in
theorem gL_law_X4_bestByAll : GoodIn wsL_law (wsV RL 137 RX4 yX4_bestByAll wsX4_bestByAll) := goodIn_app (goodIn_of _ (by decide +kernel)) ggL_law_X4_bestByAll
set_option maxRecDepth 20000 in
theorem ggL_law_L_planned : GoodIn wsL_law wsL_planned := goodIn_ca (goodIn_r _ [421, 62, 422, 423, 424, 2, 425, 16, 22, 134, 135, 136, 137, 18, 67, 68, 69, 70, 71, 338, 21, 339, 340, 35, 341, 342, 343, 344, 36, 345, 346, 347, 348, 349, 237, 201, 238, 350, 351, 352, 196, 24, 197, 198, 44, 199, 200, 202, 171, 172, 173, 43, 426, 427, 428, 356, 357, 358, 359, 360, 37, 361, 362, 363, 364, 365, 366, 367, 368, 369, 370, 371, 372, 373, 374, 375, 376, 377, 378, 379, 380, 429, 430, 431, 432, 448, 449, 450, 465, 466, 467, 468, 469, 470, 471, 472, 473, 474, 475, 476, 477, 478, 479, 480, 481, 482, 483, 484, 485, 486, 487, 488] (by decide +kernel) (by decide +kernel)) (goodIn_sub (fun _ h => List.mem_append_left _ (List.mem_append_right _ h)) (by decide +kernel))
set_option maxRecDepth 20000 in
theorem gL_law_L_planned : GoodIn wsL_law (va_wsS RL 138 yL_planned wsL_planned) := goodIn_app (goodIn_of _ (by decide +kernel)) ggL_law_L_planned
set_option maxRecDepth 20000 in
theorem ggL_law_X4_planned : GoodIn wsL_law wsX4_planned := goodIn_r _ [436, 86, 49, 54, 51, 50, 52, 142, 143, 5, 144, 88, 89, 90, 91, 92, 93, 94, 95, 385, 386, 387, 388, 57, 156, 389, 390, 391, 392, 393, 394, 395, 207, 208, 209, 210, 55, 181, 182, 183, 184, 53, 451, 452, 453, 454, 455, 456, 457, 458, 459, 460, 461, 462, 463, 464] (by decide +kernel) (by decide +kernel)
set_option maxRecDepth 20000 in
theorem gL_law_X4_planned : GoodIn wsL_law (wsV RL 140 RX4 yX4_planned wsX4_planned) := goodIn_app (goodIn_of _ (by decide +kernel)) ggL_law_X4_planned
set_option maxRecDepth 20000 in
theorem ggL_law_L_bestLeaving : GoodIn wsL_law wsL_bestLeaving := goodIn_ca (goodIn_r _ [439, 62, 440, 441, 442, 2, 443, 22, 16, 134, 135, 136, 137, 18, 67, 68, 69, 70, 71, 338, 21, 339, 340, 35, 341, 342, 343, 344, 36, 345, 346, 347, 348, 349, 237, 201, 238, 350, 351, 352, 196, 24, 197, 198, 44, 199, 200, 202, 171, 172, 173, 43, 353, 354, 355, 356, 357, 358, 359, 360, 37, 361, 362, 363, 364, 365, 366, 367, 368, 369, 370, 371, 372, 373, 374, 375, 376, 377, 378, 379, 380, 448, 449, 450, 465, 466, 467, 468, 469, 470, 471, 472, 473, 474, 475, 476, 477, 478, 479, 480, 481, 482, 483, 484, 485, 486, 487, 488] (by decide +kernel) (by decide +kernel)) (goodIn_sub (fun _ h => List.mem_append_left _ (List.mem_append_right _ h)) (by decide +kernel))
set_option maxRecDepth 20000 in
theorem gL_law_L_bestLeaving : GoodIn wsL_law (va_wsS RL 141 yL_bestLeaving wsL_bestLeaving) := goodIn_app (goodIn_of _ (by decide +kernel)) ggL_law_L_bestLeaving
set_option maxRecDepth 20000 in
theorem ggL_law_X4_bestLeaving : GoodIn wsL_law wsX4_bestLeaving := goodIn_r _ [447, 142, 143, 5, 144, 88, 89, 90, 91, 92, 93, 94, 95, 385, 386, 387, 388, 57, 49, 156, 86, 54, 389, 390, 391, 392, 51, 52, 50, 393, 394, 395, 207, 208, 209, 210, 55, 181, 182, 183, 184, 53, 451, 452, 453, 454, 455, 456, 457, 458, 459, 460, 461, 462, 463, 464] (by decide +kernel) (by decide +kernel)
set_option maxRecDepth 20000 in
theorem gL_law_X4_bestLeaving : GoodIn wsL_law (wsV RL 143 RX4 yX4_bestLeaving wsX4_bestLeaving) := goodIn_app (goodIn_of _ (by decide +kernel)) ggL_law_X4_bestLeaving
abbrev vwCl : List vw_C := [(RX0, TX0, 12), (RX1, TX1, 7), (RX2, TX2, 5), (RX3, TX3, 3), (RX4, TX4, 14)]
end
section
theorem dX0_init_0 : decode cX0_init 0 = .ok (.aload_n 0, 1) := by decide +kernel
theorem dX0_init_1 : decode cX0_init 1 = .ok (.invokespecial 3, 3) := by decide +kernel
theorem dX0_init_4 : decode cX0_init 4 = .ok (.aload_n 0, 1) := by decide +kernel
theorem dX0_init_5 : decode cX0_init 5 = .ok (.iconst 5, 1) := by decide +kernel
theorem dX0_init_6 : decode cX0_init 6 = .ok (.newarray .int, 2) := by decide +kernel
theorem dX0_init_8 : decode cX0_init 8 = .ok (.putfield 9, 3) := by decide +kernel
theorem dX0_init_11 : decode cX0_init 11 = .ok (.aload_n 0, 1) := by decide +kernel
theorem dX0_init_12 : decode cX0_init 12 = .ok (.iconst 5, 1) := by decide +kernel
theorem dX0_init_13 : decode cX0_init 13 = .ok (.newarray .int, 2) := by decide +kernel
theorem dX0_init_15 : decode cX0_init 15 = .ok (.putfield 15, 3) := by decide +kernel
theorem dX0_init_18 : decode cX0_init 18 = .ok (.aload_n 0, 1) := by decide +kernel
theorem dX0_init_19 : decode cX0_init 19 = .ok (.sipush 3050, 3) := by decide +kernel
theorem dX0_init_22 : decode cX0_init 22 = .ok (.newarray .int, 2) := by decide +kernel
theorem dX0_init_24 : decode cX0_init 24 = .ok (.putfield 18, 3) := by decide +kernel
theorem dX0_init_27 : decode cX0_init 27 = .ok (.aload_n 0, 1) := by decide +kernel
theorem dX0_init_28 : decode cX0_init 28 = .ok (.bipush 6, 2) := by decide +kernel
theorem dX0_init_30 : decode cX0_init 30 = .ok (.newarray .int, 2) := by decide +kernel
theorem dX0_init_32 : decode cX0_init 32 = .ok (.putfield 21, 3) := by decide +kernel
theorem dX0_init_35 : decode cX0_init 35 = .ok (.return_, 1) := by decide +kernel
theorem dX0_lookAt_0 : decode cX0_lookAt 0 = .ok (.aload_n 1, 1) := by decide +kernel
theorem dX0_lookAt_1 : decode cX0_lookAt 1 = .ok (.getfield 24, 3) := by decide +kernel
theorem dX0_lookAt_4 : decode cX0_lookAt 4 = .ok (.iconst 0, 1) := by decide +kernel
theorem dX0_lookAt_5 : decode cX0_lookAt 5 = .ok (.aload_n 0, 1) := by decide +kernel
theorem dX0_lookAt_6 : decode cX0_lookAt 6 = .ok (.getfield 9, 3) := by decide +kernel
theorem dX0_lookAt_9 : decode cX0_lookAt 9 = .ok (.iconst 0, 1) := by decide +kernel
theorem dX0_lookAt_10 : decode cX0_lookAt 10 = .ok (.iconst 5, 1) := by decide +kernel
theorem dX0_lookAt_11 : decode cX0_lookAt 11 = .ok (.invokestatic 27, 3) := by decide +kernel
theorem dX0_lookAt_14 : decode cX0_lookAt 14 = .ok (.aload_n 2, 1) := by decide +kernel
theorem dX0_lookAt_15 : decode cX0_lookAt 15 = .ok (.getfield 33, 3) := by decide +kernel
theorem dX0_lookAt_18 : decode cX0_lookAt 18 = .ok (.iconst 0, 1) := by decide +kernel
theorem dX0_lookAt_19 : decode cX0_lookAt 19 = .ok (.aload_n 0, 1) := by decide +kernel
theorem dX0_lookAt_20 : decode cX0_lookAt 20 = .ok (.getfield 15, 3) := by decide +kernel
theorem dX0_lookAt_23 : decode cX0_lookAt 23 = .ok (.iconst 0, 1) := by decide +kernel
theorem dX0_lookAt_24 : decode cX0_lookAt 24 = .ok (.iconst 5, 1) := by decide +kernel
theorem dX0_lookAt_25 : decode cX0_lookAt 25 = .ok (.invokestatic 27, 3) := by decide +kernel
theorem dX0_lookAt_28 : decode cX0_lookAt 28 = .ok (.aload_n 0, 1) := by decide +kernel
theorem dX0_lookAt_29 : decode cX0_lookAt 29 = .ok (.aload_n 1, 1) := by decide +kernel
theorem dX0_lookAt_30 : decode cX0_lookAt 30 = .ok (.getfield 36, 3) := by decide +kernel
theorem dX0_lookAt_33 : decode cX0_lookAt 33 = .ok (.putfield 40, 3) := by decide +kernel
theorem dX0_lookAt_36 : decode cX0_lookAt 36 = .ok (.aload_n 0, 1) := by decide +kernel
theorem dX0_lookAt_37 : decode cX0_lookAt 37 = .ok (.aload_n 1, 1) := by decide +kernel
theorem dX0_lookAt_38 : decode cX0_lookAt 38 = .ok (.getfield 43, 3) := by decide +kernel
theorem dX0_lookAt_41 : decode cX0_lookAt 41 = .ok (.putfield 46, 3) := by decide +kernel
theorem dX0_lookAt_44 : decode cX0_lookAt 44 = .ok (.aload_n 0, 1) := by decide +kernel
theorem dX0_lookAt_45 : decode cX0_lookAt 45 = .ok (.aload_n 1, 1) := by decide +kernel
theorem dX0_lookAt_46 : decode cX0_lookAt 46 = .ok (.getfield 49, 3) := by decide +kernel
theorem dX0_lookAt_49 : decode cX0_lookAt 49 = .ok (.putfield 52, 3) := by decide +kernel
theorem dX0_lookAt_52 : decode cX0_lookAt 52 = .ok (.aload_n 0, 1) := by decide +kernel
theorem dX0_lookAt_53 : decode cX0_lookAt 53 = .ok (.aload_n 1, 1) := by decide +kernel
theorem dX0_lookAt_54 : decode cX0_lookAt 54 = .ok (.getfield 53, 3) := by decide +kernel
theorem dX0_lookAt_57 : decode cX0_lookAt 57 = .ok (.putfield 56, 3) := by decide +kernel
theorem dX0_lookAt_60 : decode cX0_lookAt 60 = .ok (.aload_n 0, 1) := by decide +kernel
theorem dX0_lookAt_61 : decode cX0_lookAt 61 = .ok (.aload_n 0, 1) := by decide +kernel
theorem dX0_lookAt_62 : decode cX0_lookAt 62 = .ok (.getfield 46, 3) := by decide +kernel
theorem dX0_lookAt_65 : decode cX0_lookAt 65 = .ok (.aload_n 0, 1) := by decide +kernel
theorem dX0_lookAt_66 : decode cX0_lookAt 66 = .ok (.getfield 40, 3) := by decide +kernel
theorem dX0_lookAt_69 : decode cX0_lookAt 69 = .ok (.aload_n 2, 1) := by decide +kernel
theorem dX0_lookAt_70 : decode cX0_lookAt 70 = .ok (.aload_n 0, 1) := by decide +kernel
theorem dX0_lookAt_71 : decode cX0_lookAt 71 = .ok (.getfield 40, 3) := by decide +kernel
theorem dX0_lookAt_74 : decode cX0_lookAt 74 = .ok (.aload_n 0, 1) := by decide +kernel
theorem dX0_lookAt_75 : decode cX0_lookAt 75 = .ok (.getfield 52, 3) := by decide +kernel
theorem dX0_lookAt_78 : decode cX0_lookAt 78 = .ok (.invokevirtual 57, 3) := by decide +kernel
theorem dX0_lookAt_81 : decode cX0_lookAt 81 = .ok (.iadd, 1) := by decide +kernel
theorem dX0_lookAt_82 : decode cX0_lookAt 82 = .ok (.invokestatic 61, 3) := by decide +kernel
theorem dX0_lookAt_85 : decode cX0_lookAt 85 = .ok (.putfield 66, 3) := by decide +kernel
theorem dX0_lookAt_88 : decode cX0_lookAt 88 = .ok (.aload_n 0, 1) := by decide +kernel
theorem dX0_lookAt_89 : decode cX0_lookAt 89 = .ok (.aload_n 2, 1) := by decide +kernel
theorem dX0_lookAt_90 : decode cX0_lookAt 90 = .ok (.getfield 69, 3) := by decide +kernel
theorem dX0_lookAt_93 : decode cX0_lookAt 93 = .ok (.putfield 72, 3) := by decide +kernel
theorem dX0_lookAt_96 : decode cX0_lookAt 96 = .ok (.aload_n 0, 1) := by decide +kernel
theorem dX0_lookAt_97 : decode cX0_lookAt 97 = .ok (.aload_n 2, 1) := by decide +kernel
theorem dX0_lookAt_98 : decode cX0_lookAt 98 = .ok (.invokevirtual 75, 3) := by decide +kernel
theorem dX0_lookAt_101 : decode cX0_lookAt 101 = .ok (.putfield 79, 3) := by decide +kernel
theorem dX0_lookAt_104 : decode cX0_lookAt 104 = .ok (.return_, 1) := by decide +kernel
theorem dX0_greatestWorth_0 : decode cX0_greatestWorth 0 = .ok (.aload_n 0, 1) := by decide +kernel
theorem dX0_greatestWorth_1 : decode cX0_greatestWorth 1 = .ok (.iload_n 1, 1) := by decide +kernel
theorem dX0_greatestWorth_2 : decode cX0_greatestWorth 2 = .ok (.invokevirtual 82, 3) := by decide +kernel
theorem dX0_greatestWorth_5 : decode cX0_greatestWorth 5 = .ok (.aload_n 0, 1) := by decide +kernel
theorem dX0_greatestWorth_6 : decode cX0_greatestWorth 6 = .ok (.aload_n 0, 1) := by decide +kernel
theorem dX0_greatestWorth_7 : decode cX0_greatestWorth 7 = .ok (.getfield 40, 3) := by decide +kernel
theorem dX0_greatestWorth_10 : decode cX0_greatestWorth 10 = .ok (.aload_n 0, 1) := by decide +kernel
theorem dX0_greatestWorth_11 : decode cX0_greatestWorth 11 = .ok (.getfield 72, 3) := by decide +kernel
theorem dX0_greatestWorth_14 : decode cX0_greatestWorth 14 = .ok (.aload_n 0, 1) := by decide +kernel
theorem dX0_greatestWorth_15 : decode cX0_greatestWorth 15 = .ok (.getfield 66, 3) := by decide +kernel
theorem dX0_greatestWorth_18 : decode cX0_greatestWorth 18 = .ok (.aload_n 0, 1) := by decide +kernel
theorem dX0_greatestWorth_19 : decode cX0_greatestWorth 19 = .ok (.getfield 40, 3) := by decide +kernel
theorem dX0_greatestWorth_22 : decode cX0_greatestWorth 22 = .ok (.isub, 1) := by decide +kernel
theorem dX0_greatestWorth_23 : decode cX0_greatestWorth 23 = .ok (.aload_n 0, 1) := by decide +kernel
theorem dX0_greatestWorth_24 : decode cX0_greatestWorth 24 = .ok (.getfield 79, 3) := by decide +kernel
theorem dX0_greatestWorth_27 : decode cX0_greatestWorth 27 = .ok (.invokevirtual 86, 3) := by decide +kernel
theorem dX0_greatestWorth_30 : decode cX0_greatestWorth 30 = .ok (.ireturn, 1) := by decide +kernel
theorem dX0_bestStepIn_0 : decode cX0_bestStepIn 0 = .ok (.aload_n 0, 1) := by decide +kernel
theorem dX0_bestStepIn_1 : decode cX0_bestStepIn 1 = .ok (.bipush 60, 2) := by decide +kernel
theorem dX0_bestStepIn_3 : decode cX0_bestStepIn 3 = .ok (.invokevirtual 82, 3) := by decide +kernel
theorem dX0_bestStepIn_6 : decode cX0_bestStepIn 6 = .ok (.aload_n 0, 1) := by decide +kernel
theorem dX0_bestStepIn_7 : decode cX0_bestStepIn 7 = .ok (.getfield 72, 3) := by decide +kernel
theorem dX0_bestStepIn_10 : decode cX0_bestStepIn 10 = .ok (.istore_n 2, 1) := by decide +kernel
theorem dX0_bestStepIn_11 : decode cX0_bestStepIn 11 = .ok (.aload_n 0, 1) := by decide +kernel
theorem dX0_bestStepIn_12 : decode cX0_bestStepIn 12 = .ok (.getfield 79, 3) := by decide +kernel
theorem dX0_bestStepIn_15 : decode cX0_bestStepIn 15 = .ok (.istore_n 3, 1) := by decide +kernel
theorem dX0_bestStepIn_16 : decode cX0_bestStepIn 16 = .ok (.aload_n 0, 1) := by decide +kernel
theorem dX0_bestStepIn_17 : decode cX0_bestStepIn 17 = .ok (.getfield 66, 3) := by decide +kernel
theorem dX0_bestStepIn_20 : decode cX0_bestStepIn 20 = .ok (.istore 4, 2) := by decide +kernel
theorem dX0_bestStepIn_22 : decode cX0_bestStepIn 22 = .ok (.aload_n 0, 1) := by decide +kernel
theorem dX0_bestStepIn_23 : decode cX0_bestStepIn 23 = .ok (.getfield 40, 3) := by decide +kernel
theorem dX0_bestStepIn_26 : decode cX0_bestStepIn 26 = .ok (.istore 5, 2) := by decide +kernel
theorem dX0_bestStepIn_28 : decode cX0_bestStepIn 28 = .ok (.iload 5, 2) := by decide +kernel
theorem dX0_bestStepIn_30 : decode cX0_bestStepIn 30 = .ok (.iload_n 1, 1) := by decide +kernel
theorem dX0_bestStepIn_31 : decode cX0_bestStepIn 31 = .ok (.if_icmp .gt 62, 3) := by decide +kernel
theorem dX0_bestStepIn_34 : decode cX0_bestStepIn 34 = .ok (.iload 5, 2) := by decide +kernel
theorem dX0_bestStepIn_36 : decode cX0_bestStepIn 36 = .ok (.iload 4, 2) := by decide +kernel
theorem dX0_bestStepIn_38 : decode cX0_bestStepIn 38 = .ok (.if_icmp .lt 36, 3) := by decide +kernel
theorem dX0_bestStepIn_41 : decode cX0_bestStepIn 41 = .ok (.aload_n 0, 1) := by decide +kernel
theorem dX0_bestStepIn_42 : decode cX0_bestStepIn 42 = .ok (.iload 5, 2) := by decide +kernel
theorem dX0_bestStepIn_44 : decode cX0_bestStepIn 44 = .ok (.iload_n 2, 1) := by decide +kernel
theorem dX0_bestStepIn_45 : decode cX0_bestStepIn 45 = .ok (.iload_n 3, 1) := by decide +kernel
theorem dX0_bestStepIn_46 : decode cX0_bestStepIn 46 = .ok (.invokevirtual 90, 3) := by decide +kernel
theorem dX0_bestStepIn_49 : decode cX0_bestStepIn 49 = .ok (.istore 6, 2) := by decide +kernel
theorem dX0_bestStepIn_51 : decode cX0_bestStepIn 51 = .ok (.iload 6, 2) := by decide +kernel
theorem dX0_bestStepIn_53 : decode cX0_bestStepIn 53 = .ok (.iload_n 2, 1) := by decide +kernel
theorem dX0_bestStepIn_54 : decode cX0_bestStepIn 54 = .ok (.if_icmp .le 13, 3) := by decide +kernel
theorem dX0_bestStepIn_57 : decode cX0_bestStepIn 57 = .ok (.iload 5, 2) := by decide +kernel
theorem dX0_bestStepIn_59 : decode cX0_bestStepIn 59 = .ok (.aload_n 0, 1) := by decide +kernel
theorem dX0_bestStepIn_60 : decode cX0_bestStepIn 60 = .ok (.getfield 52, 3) := by decide +kernel
theorem dX0_bestStepIn_63 : decode cX0_bestStepIn 63 = .ok (.iadd, 1) := by decide +kernel
theorem dX0_bestStepIn_64 : decode cX0_bestStepIn 64 = .ok (.goto 5, 3) := by decide +kernel
theorem dX0_bestStepIn_67 : decode cX0_bestStepIn 67 = .ok (.iload 4, 2) := by decide +kernel
theorem dX0_bestStepIn_69 : decode cX0_bestStepIn 69 = .ok (.istore 4, 2) := by decide +kernel
theorem dX0_bestStepIn_71 : decode cX0_bestStepIn 71 = .ok (.iload 6, 2) := by decide +kernel
theorem dX0_bestStepIn_73 : decode cX0_bestStepIn 73 = .ok (.istore_n 2, 1) := by decide +kernel
theorem dX0_bestStepIn_74 : decode cX0_bestStepIn 74 = .ok (.iload_n 3, 1) := by decide +kernel
theorem dX0_bestStepIn_75 : decode cX0_bestStepIn 75 = .ok (.iload_n 3, 1) := by decide +kernel
theorem dX0_bestStepIn_76 : decode cX0_bestStepIn 76 = .ok (.aload_n 0, 1) := by decide +kernel
theorem dX0_bestStepIn_77 : decode cX0_bestStepIn 77 = .ok (.getfield 15, 3) := by decide +kernel
theorem dX0_bestStepIn_80 : decode cX0_bestStepIn 80 = .ok (.iload_n 2, 1) := by decide +kernel
theorem dX0_bestStepIn_81 : decode cX0_bestStepIn 81 = .ok (.iaload, 1) := by decide +kernel
theorem dX0_bestStepIn_82 : decode cX0_bestStepIn 82 = .ok (.invokestatic 61, 3) := by decide +kernel
theorem dX0_bestStepIn_85 : decode cX0_bestStepIn 85 = .ok (.isub, 1) := by decide +kernel
theorem dX0_bestStepIn_86 : decode cX0_bestStepIn 86 = .ok (.istore_n 3, 1) := by decide +kernel
theorem dX0_bestStepIn_87 : decode cX0_bestStepIn 87 = .ok (.iinc 5 1, 3) := by decide +kernel
theorem dX0_bestStepIn_90 : decode cX0_bestStepIn 90 = .ok (.goto (-62), 3) := by decide +kernel
theorem dX0_bestStepIn_93 : decode cX0_bestStepIn 93 = .ok (.iload_n 2, 1) := by decide +kernel
theorem dX0_bestStepIn_94 : decode cX0_bestStepIn 94 = .ok (.ireturn, 1) := by decide +kernel
theorem dX0_tellWorths_0 : decode cX0_tellWorths 0 = .ok (.aload_n 0, 1) := by decide +kernel
theorem dX0_tellWorths_1 : decode cX0_tellWorths 1 = .ok (.iload_n 1, 1) := by decide +kernel
theorem dX0_tellWorths_2 : decode cX0_tellWorths 2 = .ok (.putfield 94, 3) := by decide +kernel
theorem dX0_tellWorths_5 : decode cX0_tellWorths 5 = .ok (.aload_n 0, 1) := by decide +kernel
theorem dX0_tellWorths_6 : decode cX0_tellWorths 6 = .ok (.getfield 46, 3) := by decide +kernel
theorem dX0_tellWorths_9 : decode cX0_tellWorths 9 = .ok (.iconst 1, 1) := by decide +kernel
theorem dX0_tellWorths_10 : decode cX0_tellWorths 10 = .ok (.isub, 1) := by decide +kernel
theorem dX0_tellWorths_11 : decode cX0_tellWorths 11 = .ok (.istore_n 2, 1) := by decide +kernel
theorem dX0_tellWorths_12 : decode cX0_tellWorths 12 = .ok (.iload_n 2, 1) := by decide +kernel
theorem dX0_tellWorths_13 : decode cX0_tellWorths 13 = .ok (.aload_n 0, 1) := by decide +kernel
theorem dX0_tellWorths_14 : decode cX0_tellWorths 14 = .ok (.getfield 66, 3) := by decide +kernel
theorem dX0_tellWorths_17 : decode cX0_tellWorths 17 = .ok (.if_icmp .lt 63, 3) := by decide +kernel
theorem dX0_tellWorths_20 : decode cX0_tellWorths 20 = .ok (.aload_n 0, 1) := by decide +kernel
theorem dX0_tellWorths_21 : decode cX0_tellWorths 21 = .ok (.getfield 72, 3) := by decide +kernel
theorem dX0_tellWorths_24 : decode cX0_tellWorths 24 = .ok (.istore_n 3, 1) := by decide +kernel
theorem dX0_tellWorths_25 : decode cX0_tellWorths 25 = .ok (.iload_n 3, 1) := by decide +kernel
theorem dX0_tellWorths_26 : decode cX0_tellWorths 26 = .ok (.iconst 5, 1) := by decide +kernel
theorem dX0_tellWorths_27 : decode cX0_tellWorths 27 = .ok (.if_icmp .ge 47, 3) := by decide +kernel
theorem dX0_tellWorths_30 : decode cX0_tellWorths 30 = .ok (.iconst 0, 1) := by decide +kernel
theorem dX0_tellWorths_31 : decode cX0_tellWorths 31 = .ok (.istore 4, 2) := by decide +kernel
theorem dX0_tellWorths_33 : decode cX0_tellWorths 33 = .ok (.iload 4, 2) := by decide +kernel
theorem dX0_tellWorths_35 : decode cX0_tellWorths 35 = .ok (.aload_n 0, 1) := by decide +kernel
theorem dX0_tellWorths_36 : decode cX0_tellWorths 36 = .ok (.getfield 79, 3) := by decide +kernel
theorem dX0_tellWorths_39 : decode cX0_tellWorths 39 = .ok (.if_icmp .gt 29, 3) := by decide +kernel
theorem dX0_tellWorths_42 : decode cX0_tellWorths 42 = .ok (.aload_n 0, 1) := by decide +kernel
theorem dX0_tellWorths_43 : decode cX0_tellWorths 43 = .ok (.getfield 18, 3) := by decide +kernel
theorem dX0_tellWorths_46 : decode cX0_tellWorths 46 = .ok (.iload_n 2, 1) := by decide +kernel
theorem dX0_tellWorths_47 : decode cX0_tellWorths 47 = .ok (.iload_n 3, 1) := by decide +kernel
theorem dX0_tellWorths_48 : decode cX0_tellWorths 48 = .ok (.iload 4, 2) := by decide +kernel
theorem dX0_tellWorths_50 : decode cX0_tellWorths 50 = .ok (.invokestatic 97, 3) := by decide +kernel
theorem dX0_tellWorths_53 : decode cX0_tellWorths 53 = .ok (.aload_n 0, 1) := by decide +kernel
theorem dX0_tellWorths_54 : decode cX0_tellWorths 54 = .ok (.iload_n 2, 1) := by decide +kernel
theorem dX0_tellWorths_55 : decode cX0_tellWorths 55 = .ok (.iload_n 3, 1) := by decide +kernel
theorem dX0_tellWorths_56 : decode cX0_tellWorths 56 = .ok (.iload 4, 2) := by decide +kernel
theorem dX0_tellWorths_58 : decode cX0_tellWorths 58 = .ok (.invokevirtual 100, 3) := by decide +kernel
theorem dX0_tellWorths_61 : decode cX0_tellWorths 61 = .ok (.iastore, 1) := by decide +kernel
theorem dX0_tellWorths_62 : decode cX0_tellWorths 62 = .ok (.iinc 4 1, 3) := by decide +kernel
theorem dX0_tellWorths_65 : decode cX0_tellWorths 65 = .ok (.goto (-32), 3) := by decide +kernel
theorem dX0_tellWorths_68 : decode cX0_tellWorths 68 = .ok (.iinc 3 1, 3) := by decide +kernel
theorem dX0_tellWorths_71 : decode cX0_tellWorths 71 = .ok (.goto (-46), 3) := by decide +kernel
theorem dX0_tellWorths_74 : decode cX0_tellWorths 74 = .ok (.iinc 2 (-1), 3) := by decide +kernel
theorem dX0_tellWorths_77 : decode cX0_tellWorths 77 = .ok (.goto (-65), 3) := by decide +kernel
theorem dX0_tellWorths_80 : decode cX0_tellWorths 80 = .ok (.return_, 1) := by decide +kernel
theorem dX0_placeOf_0 : decode cX0_placeOf 0 = .ok (.iload_n 0, 1) := by decide +kernel
theorem dX0_placeOf_1 : decode cX0_placeOf 1 = .ok (.iconst 5, 1) := by decide +kernel
theorem dX0_placeOf_2 : decode cX0_placeOf 2 = .ok (.imul, 1) := by decide +kernel
theorem dX0_placeOf_3 : decode cX0_placeOf 3 = .ok (.iload_n 1, 1) := by decide +kernel
theorem dX0_placeOf_4 : decode cX0_placeOf 4 = .ok (.iadd, 1) := by decide +kernel
theorem dX0_placeOf_5 : decode cX0_placeOf 5 = .ok (.bipush 61, 2) := by decide +kernel
theorem dX0_placeOf_7 : decode cX0_placeOf 7 = .ok (.imul, 1) := by decide +kernel
theorem dX0_placeOf_8 : decode cX0_placeOf 8 = .ok (.iload_n 2, 1) := by decide +kernel
theorem dX0_placeOf_9 : decode cX0_placeOf 9 = .ok (.iadd, 1) := by decide +kernel
theorem dX0_placeOf_10 : decode cX0_placeOf 10 = .ok (.ireturn, 1) := by decide +kernel
theorem dX0_worthOfChoosing_0 : decode cX0_worthOfChoosing 0 = .ok (.iconst (-1), 1) := by decide +kernel
theorem dX0_worthOfChoosing_1 : decode cX0_worthOfChoosing 1 = .ok (.istore 4, 2) := by decide +kernel
theorem dX0_worthOfChoosing_3 : decode cX0_worthOfChoosing 3 = .ok (.iload_n 2, 1) := by decide +kernel
theorem dX0_worthOfChoosing_4 : decode cX0_worthOfChoosing 4 = .ok (.istore 5, 2) := by decide +kernel
theorem dX0_worthOfChoosing_6 : decode cX0_worthOfChoosing 6 = .ok (.iload 5, 2) := by decide +kernel
theorem dX0_worthOfChoosing_8 : decode cX0_worthOfChoosing 8 = .ok (.iconst 5, 1) := by decide +kernel
theorem dX0_worthOfChoosing_9 : decode cX0_worthOfChoosing 9 = .ok (.if_icmp .ge 25, 3) := by decide +kernel
theorem dX0_worthOfChoosing_12 : decode cX0_worthOfChoosing 12 = .ok (.iload 4, 2) := by decide +kernel
theorem dX0_worthOfChoosing_14 : decode cX0_worthOfChoosing 14 = .ok (.aload_n 0, 1) := by decide +kernel
theorem dX0_worthOfChoosing_15 : decode cX0_worthOfChoosing 15 = .ok (.iload_n 1, 1) := by decide +kernel
theorem dX0_worthOfChoosing_16 : decode cX0_worthOfChoosing 16 = .ok (.iload_n 2, 1) := by decide +kernel
theorem dX0_worthOfChoosing_17 : decode cX0_worthOfChoosing 17 = .ok (.iload 5, 2) := by decide +kernel
theorem dX0_worthOfChoosing_19 : decode cX0_worthOfChoosing 19 = .ok (.iload_n 3, 1) := by decide +kernel
theorem dX0_worthOfChoosing_20 : decode cX0_worthOfChoosing 20 = .ok (.invokevirtual 103, 3) := by decide +kernel
theorem dX0_worthOfChoosing_23 : decode cX0_worthOfChoosing 23 = .ok (.invokestatic 106, 3) := by decide +kernel
theorem dX0_worthOfChoosing_26 : decode cX0_worthOfChoosing 26 = .ok (.istore 4, 2) := by decide +kernel
theorem dX0_worthOfChoosing_28 : decode cX0_worthOfChoosing 28 = .ok (.iinc 5 1, 3) := by decide +kernel
theorem dX0_worthOfChoosing_31 : decode cX0_worthOfChoosing 31 = .ok (.goto (-25), 3) := by decide +kernel
theorem dX0_worthOfChoosing_34 : decode cX0_worthOfChoosing 34 = .ok (.iload 4, 2) := by decide +kernel
theorem dX0_worthOfChoosing_36 : decode cX0_worthOfChoosing 36 = .ok (.ireturn, 1) := by decide +kernel
theorem dX0_lowestBestStep_0 : decode cX0_lowestBestStep 0 = .ok (.aload_n 0, 1) := by decide +kernel
theorem dX0_lowestBestStep_1 : decode cX0_lowestBestStep 1 = .ok (.iload_n 1, 1) := by decide +kernel
theorem dX0_lowestBestStep_2 : decode cX0_lowestBestStep 2 = .ok (.iload_n 2, 1) := by decide +kernel
theorem dX0_lowestBestStep_3 : decode cX0_lowestBestStep 3 = .ok (.iload_n 3, 1) := by decide +kernel
theorem dX0_lowestBestStep_4 : decode cX0_lowestBestStep 4 = .ok (.invokevirtual 109, 3) := by decide +kernel
theorem dX0_lowestBestStep_7 : decode cX0_lowestBestStep 7 = .ok (.istore 4, 2) := by decide +kernel
theorem dX0_lowestBestStep_9 : decode cX0_lowestBestStep 9 = .ok (.iload_n 2, 1) := by decide +kernel
theorem dX0_lowestBestStep_10 : decode cX0_lowestBestStep 10 = .ok (.istore 5, 2) := by decide +kernel
theorem dX0_lowestBestStep_12 : decode cX0_lowestBestStep 12 = .ok (.iload 5, 2) := by decide +kernel
theorem dX0_lowestBestStep_14 : decode cX0_lowestBestStep 14 = .ok (.iconst 5, 1) := by decide +kernel
theorem dX0_lowestBestStep_15 : decode cX0_lowestBestStep 15 = .ok (.if_icmp .ge 26, 3) := by decide +kernel
theorem dX0_lowestBestStep_18 : decode cX0_lowestBestStep 18 = .ok (.aload_n 0, 1) := by decide +kernel
theorem dX0_lowestBestStep_19 : decode cX0_lowestBestStep 19 = .ok (.iload_n 1, 1) := by decide +kernel
theorem dX0_lowestBestStep_20 : decode cX0_lowestBestStep 20 = .ok (.iload_n 2, 1) := by decide +kernel
theorem dX0_lowestBestStep_21 : decode cX0_lowestBestStep 21 = .ok (.iload 5, 2) := by decide +kernel
theorem dX0_lowestBestStep_23 : decode cX0_lowestBestStep 23 = .ok (.iload_n 3, 1) := by decide +kernel
theorem dX0_lowestBestStep_24 : decode cX0_lowestBestStep 24 = .ok (.invokevirtual 103, 3) := by decide +kernel
theorem dX0_lowestBestStep_27 : decode cX0_lowestBestStep 27 = .ok (.iload 4, 2) := by decide +kernel
theorem dX0_lowestBestStep_29 : decode cX0_lowestBestStep 29 = .ok (.if_icmp .ne 6, 3) := by decide +kernel
theorem dX0_lowestBestStep_32 : decode cX0_lowestBestStep 32 = .ok (.iload 5, 2) := by decide +kernel
theorem dX0_lowestBestStep_34 : decode cX0_lowestBestStep 34 = .ok (.ireturn, 1) := by decide +kernel
theorem dX0_lowestBestStep_35 : decode cX0_lowestBestStep 35 = .ok (.iinc 5 1, 3) := by decide +kernel
theorem dX0_lowestBestStep_38 : decode cX0_lowestBestStep 38 = .ok (.goto (-26), 3) := by decide +kernel
theorem dX0_lowestBestStep_41 : decode cX0_lowestBestStep 41 = .ok (.iload_n 2, 1) := by decide +kernel
theorem dX0_lowestBestStep_42 : decode cX0_lowestBestStep 42 = .ok (.ireturn, 1) := by decide +kernel
theorem dX0_worthOfTaking_0 : decode cX0_worthOfTaking 0 = .ok (.aload_n 0, 1) := by decide +kernel
theorem dX0_worthOfTaking_1 : decode cX0_worthOfTaking 1 = .ok (.iload_n 1, 1) := by decide +kernel
theorem dX0_worthOfTaking_2 : decode cX0_worthOfTaking 2 = .ok (.iload_n 3, 1) := by decide +kernel
theorem dX0_worthOfTaking_3 : decode cX0_worthOfTaking 3 = .ok (.iload_n 3, 1) := by decide +kernel
theorem dX0_worthOfTaking_4 : decode cX0_worthOfTaking 4 = .ok (.iload_n 2, 1) := by decide +kernel
theorem dX0_worthOfTaking_5 : decode cX0_worthOfTaking 5 = .ok (.if_icmp .le 10, 3) := by decide +kernel
theorem dX0_worthOfTaking_8 : decode cX0_worthOfTaking 8 = .ok (.aload_n 0, 1) := by decide +kernel
theorem dX0_worthOfTaking_9 : decode cX0_worthOfTaking 9 = .ok (.getfield 52, 3) := by decide +kernel
theorem dX0_worthOfTaking_12 : decode cX0_worthOfTaking 12 = .ok (.goto 4, 3) := by decide +kernel
theorem dX0_worthOfTaking_15 : decode cX0_worthOfTaking 15 = .ok (.iconst 1, 1) := by decide +kernel
theorem dX0_worthOfTaking_16 : decode cX0_worthOfTaking 16 = .ok (.iload 4, 2) := by decide +kernel
theorem dX0_worthOfTaking_18 : decode cX0_worthOfTaking 18 = .ok (.invokevirtual 86, 3) := by decide +kernel
theorem dX0_worthOfTaking_21 : decode cX0_worthOfTaking 21 = .ok (.ireturn, 1) := by decide +kernel
theorem dX0_worthOfKeeping_0 : decode cX0_worthOfKeeping 0 = .ok (.iload_n 3, 1) := by decide +kernel
theorem dX0_worthOfKeeping_1 : decode cX0_worthOfKeeping 1 = .ok (.aload_n 0, 1) := by decide +kernel
theorem dX0_worthOfKeeping_2 : decode cX0_worthOfKeeping 2 = .ok (.getfield 46, 3) := by decide +kernel
theorem dX0_worthOfKeeping_5 : decode cX0_worthOfKeeping 5 = .ok (.iload_n 1, 1) := by decide +kernel
theorem dX0_worthOfKeeping_6 : decode cX0_worthOfKeeping 6 = .ok (.isub, 1) := by decide +kernel
theorem dX0_worthOfKeeping_7 : decode cX0_worthOfKeeping 7 = .ok (.invokestatic 61, 3) := by decide +kernel
theorem dX0_worthOfKeeping_10 : decode cX0_worthOfKeeping 10 = .ok (.istore 5, 2) := by decide +kernel
theorem dX0_worthOfKeeping_12 : decode cX0_worthOfKeeping 12 = .ok (.iload 4, 2) := by decide +kernel
theorem dX0_worthOfKeeping_14 : decode cX0_worthOfKeeping 14 = .ok (.iload 5, 2) := by decide +kernel
theorem dX0_worthOfKeeping_16 : decode cX0_worthOfKeeping 16 = .ok (.aload_n 0, 1) := by decide +kernel
theorem dX0_worthOfKeeping_17 : decode cX0_worthOfKeeping 17 = .ok (.getfield 15, 3) := by decide +kernel
theorem dX0_worthOfKeeping_20 : decode cX0_worthOfKeeping 20 = .ok (.iload_n 2, 1) := by decide +kernel
theorem dX0_worthOfKeeping_21 : decode cX0_worthOfKeeping 21 = .ok (.iaload, 1) := by decide +kernel
theorem dX0_worthOfKeeping_22 : decode cX0_worthOfKeeping 22 = .ok (.imul, 1) := by decide +kernel
theorem dX0_worthOfKeeping_23 : decode cX0_worthOfKeeping 23 = .ok (.invokestatic 61, 3) := by decide +kernel
theorem dX0_worthOfKeeping_26 : decode cX0_worthOfKeeping 26 = .ok (.istore 6, 2) := by decide +kernel
theorem dX0_worthOfKeeping_28 : decode cX0_worthOfKeeping 28 = .ok (.aload_n 0, 1) := by decide +kernel
theorem dX0_worthOfKeeping_29 : decode cX0_worthOfKeeping 29 = .ok (.iload_n 1, 1) := by decide +kernel
theorem dX0_worthOfKeeping_30 : decode cX0_worthOfKeeping 30 = .ok (.iload 5, 2) := by decide +kernel
theorem dX0_worthOfKeeping_32 : decode cX0_worthOfKeeping 32 = .ok (.iadd, 1) := by decide +kernel
theorem dX0_worthOfKeeping_33 : decode cX0_worthOfKeeping 33 = .ok (.iload_n 2, 1) := by decide +kernel
theorem dX0_worthOfKeeping_34 : decode cX0_worthOfKeeping 34 = .ok (.iload 4, 2) := by decide +kernel
theorem dX0_worthOfKeeping_36 : decode cX0_worthOfKeeping 36 = .ok (.iload 6, 2) := by decide +kernel
theorem dX0_worthOfKeeping_38 : decode cX0_worthOfKeeping 38 = .ok (.isub, 1) := by decide +kernel
theorem dX0_worthOfKeeping_39 : decode cX0_worthOfKeeping 39 = .ok (.invokevirtual 109, 3) := by decide +kernel
theorem dX0_worthOfKeeping_42 : decode cX0_worthOfKeeping 42 = .ok (.istore 7, 2) := by decide +kernel
theorem dX0_worthOfKeeping_44 : decode cX0_worthOfKeeping 44 = .ok (.iload 7, 2) := by decide +kernel
theorem dX0_worthOfKeeping_46 : decode cX0_worthOfKeeping 46 = .ok (.iconst (-1), 1) := by decide +kernel
theorem dX0_worthOfKeeping_47 : decode cX0_worthOfKeeping 47 = .ok (.if_icmp .ne 7, 3) := by decide +kernel
theorem dX0_worthOfKeeping_50 : decode cX0_worthOfKeeping 50 = .ok (.iconst (-1), 1) := by decide +kernel
theorem dX0_worthOfKeeping_51 : decode cX0_worthOfKeeping 51 = .ok (.goto 15, 3) := by decide +kernel
theorem dX0_worthOfKeeping_54 : decode cX0_worthOfKeeping 54 = .ok (.iload 6, 2) := by decide +kernel
theorem dX0_worthOfKeeping_56 : decode cX0_worthOfKeeping 56 = .ok (.aload_n 0, 1) := by decide +kernel
theorem dX0_worthOfKeeping_57 : decode cX0_worthOfKeeping 57 = .ok (.getfield 9, 3) := by decide +kernel
theorem dX0_worthOfKeeping_60 : decode cX0_worthOfKeeping 60 = .ok (.iload_n 2, 1) := by decide +kernel
theorem dX0_worthOfKeeping_61 : decode cX0_worthOfKeeping 61 = .ok (.iaload, 1) := by decide +kernel
theorem dX0_worthOfKeeping_62 : decode cX0_worthOfKeeping 62 = .ok (.imul, 1) := by decide +kernel
theorem dX0_worthOfKeeping_63 : decode cX0_worthOfKeeping 63 = .ok (.iload 7, 2) := by decide +kernel
theorem dX0_worthOfKeeping_65 : decode cX0_worthOfKeeping 65 = .ok (.iadd, 1) := by decide +kernel
theorem dX0_worthOfKeeping_66 : decode cX0_worthOfKeeping 66 = .ok (.ireturn, 1) := by decide +kernel
theorem dX0_worthFrom_0 : decode cX0_worthFrom 0 = .ok (.iload_n 1, 1) := by decide +kernel
theorem dX0_worthFrom_1 : decode cX0_worthFrom 1 = .ok (.aload_n 0, 1) := by decide +kernel
theorem dX0_worthFrom_2 : decode cX0_worthFrom 2 = .ok (.getfield 46, 3) := by decide +kernel
theorem dX0_worthFrom_5 : decode cX0_worthFrom 5 = .ok (.if_icmp .ge 15, 3) := by decide +kernel
theorem dX0_worthFrom_8 : decode cX0_worthFrom 8 = .ok (.aload_n 0, 1) := by decide +kernel
theorem dX0_worthFrom_9 : decode cX0_worthFrom 9 = .ok (.getfield 18, 3) := by decide +kernel
theorem dX0_worthFrom_12 : decode cX0_worthFrom 12 = .ok (.iload_n 1, 1) := by decide +kernel
theorem dX0_worthFrom_13 : decode cX0_worthFrom 13 = .ok (.iload_n 2, 1) := by decide +kernel
theorem dX0_worthFrom_14 : decode cX0_worthFrom 14 = .ok (.iload_n 3, 1) := by decide +kernel
theorem dX0_worthFrom_15 : decode cX0_worthFrom 15 = .ok (.invokestatic 97, 3) := by decide +kernel
theorem dX0_worthFrom_18 : decode cX0_worthFrom 18 = .ok (.iaload, 1) := by decide +kernel
theorem dX0_worthFrom_19 : decode cX0_worthFrom 19 = .ok (.ireturn, 1) := by decide +kernel
theorem dX0_worthFrom_20 : decode cX0_worthFrom 20 = .ok (.iload_n 3, 1) := by decide +kernel
theorem dX0_worthFrom_21 : decode cX0_worthFrom 21 = .ok (.aload_n 0, 1) := by decide +kernel
theorem dX0_worthFrom_22 : decode cX0_worthFrom 22 = .ok (.getfield 94, 3) := by decide +kernel
theorem dX0_worthFrom_25 : decode cX0_worthFrom 25 = .ok (.if_icmp .le 7, 3) := by decide +kernel
theorem dX0_worthFrom_28 : decode cX0_worthFrom 28 = .ok (.iconst (-1), 1) := by decide +kernel
theorem dX0_worthFrom_29 : decode cX0_worthFrom 29 = .ok (.goto 9, 3) := by decide +kernel
theorem dX0_worthFrom_32 : decode cX0_worthFrom 32 = .ok (.iload_n 3, 1) := by decide +kernel
theorem dX0_worthFrom_33 : decode cX0_worthFrom 33 = .ok (.aload_n 0, 1) := by decide +kernel
theorem dX0_worthFrom_34 : decode cX0_worthFrom 34 = .ok (.getfield 56, 3) := by decide +kernel
theorem dX0_worthFrom_37 : decode cX0_worthFrom 37 = .ok (.imul, 1) := by decide +kernel
theorem dX0_worthFrom_38 : decode cX0_worthFrom 38 = .ok (.ireturn, 1) := by decide +kernel
theorem dX0_greatestWorthByAll_0 : decode cX0_greatestWorthByAll 0 = .ok (.aload_n 0, 1) := by decide +kernel
theorem dX0_greatestWorthByAll_1 : decode cX0_greatestWorthByAll 1 = .ok (.getfield 46, 3) := by decide +kernel
theorem dX0_greatestWorthByAll_4 : decode cX0_greatestWorthByAll 4 = .ok (.aload_n 0, 1) := by decide +kernel
theorem dX0_greatestWorthByAll_5 : decode cX0_greatestWorthByAll 5 = .ok (.getfield 40, 3) := by decide +kernel
theorem dX0_greatestWorthByAll_8 : decode cX0_greatestWorthByAll 8 = .ok (.isub, 1) := by decide +kernel
theorem dX0_greatestWorthByAll_9 : decode cX0_greatestWorthByAll 9 = .ok (.bipush 6, 2) := by decide +kernel
theorem dX0_greatestWorthByAll_11 : decode cX0_greatestWorthByAll 11 = .ok (.invokestatic 61, 3) := by decide +kernel
theorem dX0_greatestWorthByAll_14 : decode cX0_greatestWorthByAll 14 = .ok (.istore_n 1, 1) := by decide +kernel
theorem dX0_greatestWorthByAll_15 : decode cX0_greatestWorthByAll 15 = .ok (.iconst 0, 1) := by decide +kernel
theorem dX0_greatestWorthByAll_16 : decode cX0_greatestWorthByAll 16 = .ok (.istore_n 2, 1) := by decide +kernel
theorem dX0_greatestWorthByAll_17 : decode cX0_greatestWorthByAll 17 = .ok (.iload_n 2, 1) := by decide +kernel
theorem dX0_greatestWorthByAll_18 : decode cX0_greatestWorthByAll 18 = .ok (.iload_n 1, 1) := by decide +kernel
theorem dX0_greatestWorthByAll_19 : decode cX0_greatestWorthByAll 19 = .ok (.if_icmp .ge 19, 3) := by decide +kernel
theorem dX0_greatestWorthByAll_22 : decode cX0_greatestWorthByAll 22 = .ok (.aload_n 0, 1) := by decide +kernel
theorem dX0_greatestWorthByAll_23 : decode cX0_greatestWorthByAll 23 = .ok (.getfield 21, 3) := by decide +kernel
theorem dX0_greatestWorthByAll_26 : decode cX0_greatestWorthByAll 26 = .ok (.iload_n 2, 1) := by decide +kernel
theorem dX0_greatestWorthByAll_27 : decode cX0_greatestWorthByAll 27 = .ok (.aload_n 0, 1) := by decide +kernel
theorem dX0_greatestWorthByAll_28 : decode cX0_greatestWorthByAll 28 = .ok (.getfield 72, 3) := by decide +kernel
theorem dX0_greatestWorthByAll_31 : decode cX0_greatestWorthByAll 31 = .ok (.iastore, 1) := by decide +kernel
theorem dX0_greatestWorthByAll_32 : decode cX0_greatestWorthByAll 32 = .ok (.iinc 2 1, 3) := by decide +kernel
theorem dX0_greatestWorthByAll_35 : decode cX0_greatestWorthByAll 35 = .ok (.goto (-18), 3) := by decide +kernel
theorem dX0_greatestWorthByAll_38 : decode cX0_greatestWorthByAll 38 = .ok (.iconst (-1), 1) := by decide +kernel
theorem dX0_greatestWorthByAll_39 : decode cX0_greatestWorthByAll 39 = .ok (.istore_n 2, 1) := by decide +kernel
theorem dX0_greatestWorthByAll_40 : decode cX0_greatestWorthByAll 40 = .ok (.iconst 1, 1) := by decide +kernel
theorem dX0_greatestWorthByAll_41 : decode cX0_greatestWorthByAll 41 = .ok (.istore_n 3, 1) := by decide +kernel
theorem dX0_greatestWorthByAll_42 : decode cX0_greatestWorthByAll 42 = .ok (.iconst 0, 1) := by decide +kernel
theorem dX0_greatestWorthByAll_43 : decode cX0_greatestWorthByAll 43 = .ok (.istore 4, 2) := by decide +kernel
theorem dX0_greatestWorthByAll_45 : decode cX0_greatestWorthByAll 45 = .ok (.iload_n 3, 1) := by decide +kernel
theorem dX0_greatestWorthByAll_46 : decode cX0_greatestWorthByAll 46 = .ok (.ifCond .eq 32, 3) := by decide +kernel
theorem dX0_greatestWorthByAll_49 : decode cX0_greatestWorthByAll 49 = .ok (.iload 4, 2) := by decide +kernel
theorem dX0_greatestWorthByAll_51 : decode cX0_greatestWorthByAll 51 = .ok (.ldc 112, 2) := by decide +kernel
theorem dX0_greatestWorthByAll_53 : decode cX0_greatestWorthByAll 53 = .ok (.if_icmp .ge 25, 3) := by decide +kernel
theorem dX0_greatestWorthByAll_56 : decode cX0_greatestWorthByAll 56 = .ok (.iload_n 2, 1) := by decide +kernel
theorem dX0_greatestWorthByAll_57 : decode cX0_greatestWorthByAll 57 = .ok (.aload_n 0, 1) := by decide +kernel
theorem dX0_greatestWorthByAll_58 : decode cX0_greatestWorthByAll 58 = .ok (.iload_n 1, 1) := by decide +kernel
theorem dX0_greatestWorthByAll_59 : decode cX0_greatestWorthByAll 59 = .ok (.invokevirtual 113, 3) := by decide +kernel
theorem dX0_greatestWorthByAll_62 : decode cX0_greatestWorthByAll 62 = .ok (.invokestatic 106, 3) := by decide +kernel
theorem dX0_greatestWorthByAll_65 : decode cX0_greatestWorthByAll 65 = .ok (.istore_n 2, 1) := by decide +kernel
theorem dX0_greatestWorthByAll_66 : decode cX0_greatestWorthByAll 66 = .ok (.aload_n 0, 1) := by decide +kernel
theorem dX0_greatestWorthByAll_67 : decode cX0_greatestWorthByAll 67 = .ok (.iload_n 1, 1) := by decide +kernel
theorem dX0_greatestWorthByAll_68 : decode cX0_greatestWorthByAll 68 = .ok (.invokevirtual 117, 3) := by decide +kernel
theorem dX0_greatestWorthByAll_71 : decode cX0_greatestWorthByAll 71 = .ok (.istore_n 3, 1) := by decide +kernel
theorem dX0_greatestWorthByAll_72 : decode cX0_greatestWorthByAll 72 = .ok (.iinc 4 1, 3) := by decide +kernel
theorem dX0_greatestWorthByAll_75 : decode cX0_greatestWorthByAll 75 = .ok (.goto (-30), 3) := by decide +kernel
theorem dX0_greatestWorthByAll_78 : decode cX0_greatestWorthByAll 78 = .ok (.iload_n 2, 1) := by decide +kernel
theorem dX0_greatestWorthByAll_79 : decode cX0_greatestWorthByAll 79 = .ok (.ireturn, 1) := by decide +kernel
theorem dX0_worthOfLadder_0 : decode cX0_worthOfLadder 0 = .ok (.aload_n 0, 1) := by decide +kernel
theorem dX0_worthOfLadder_1 : decode cX0_worthOfLadder 1 = .ok (.getfield 72, 3) := by decide +kernel
theorem dX0_worthOfLadder_4 : decode cX0_worthOfLadder 4 = .ok (.istore_n 2, 1) := by decide +kernel
theorem dX0_worthOfLadder_5 : decode cX0_worthOfLadder 5 = .ok (.aload_n 0, 1) := by decide +kernel
theorem dX0_worthOfLadder_6 : decode cX0_worthOfLadder 6 = .ok (.getfield 79, 3) := by decide +kernel
theorem dX0_worthOfLadder_9 : decode cX0_worthOfLadder 9 = .ok (.istore_n 3, 1) := by decide +kernel
theorem dX0_worthOfLadder_10 : decode cX0_worthOfLadder 10 = .ok (.aload_n 0, 1) := by decide +kernel
theorem dX0_worthOfLadder_11 : decode cX0_worthOfLadder 11 = .ok (.getfield 66, 3) := by decide +kernel
theorem dX0_worthOfLadder_14 : decode cX0_worthOfLadder 14 = .ok (.istore 4, 2) := by decide +kernel
theorem dX0_worthOfLadder_16 : decode cX0_worthOfLadder 16 = .ok (.iconst 0, 1) := by decide +kernel
theorem dX0_worthOfLadder_17 : decode cX0_worthOfLadder 17 = .ok (.istore 5, 2) := by decide +kernel
theorem dX0_worthOfLadder_19 : decode cX0_worthOfLadder 19 = .ok (.iconst 0, 1) := by decide +kernel
theorem dX0_worthOfLadder_20 : decode cX0_worthOfLadder 20 = .ok (.istore 6, 2) := by decide +kernel
theorem dX0_worthOfLadder_22 : decode cX0_worthOfLadder 22 = .ok (.iload 6, 2) := by decide +kernel
theorem dX0_worthOfLadder_24 : decode cX0_worthOfLadder 24 = .ok (.iload_n 1, 1) := by decide +kernel
theorem dX0_worthOfLadder_25 : decode cX0_worthOfLadder 25 = .ok (.if_icmp .ge 88, 3) := by decide +kernel
theorem dX0_worthOfLadder_28 : decode cX0_worthOfLadder 28 = .ok (.aload_n 0, 1) := by decide +kernel
theorem dX0_worthOfLadder_29 : decode cX0_worthOfLadder 29 = .ok (.getfield 21, 3) := by decide +kernel
theorem dX0_worthOfLadder_32 : decode cX0_worthOfLadder 32 = .ok (.iload 6, 2) := by decide +kernel
theorem dX0_worthOfLadder_34 : decode cX0_worthOfLadder 34 = .ok (.iaload, 1) := by decide +kernel
theorem dX0_worthOfLadder_35 : decode cX0_worthOfLadder 35 = .ok (.istore 7, 2) := by decide +kernel
theorem dX0_worthOfLadder_37 : decode cX0_worthOfLadder 37 = .ok (.iload 7, 2) := by decide +kernel
theorem dX0_worthOfLadder_39 : decode cX0_worthOfLadder 39 = .ok (.iload_n 2, 1) := by decide +kernel
theorem dX0_worthOfLadder_40 : decode cX0_worthOfLadder 40 = .ok (.if_icmp .le 31, 3) := by decide +kernel
theorem dX0_worthOfLadder_43 : decode cX0_worthOfLadder 43 = .ok (.aload_n 0, 1) := by decide +kernel
theorem dX0_worthOfLadder_44 : decode cX0_worthOfLadder 44 = .ok (.getfield 40, 3) := by decide +kernel
theorem dX0_worthOfLadder_47 : decode cX0_worthOfLadder 47 = .ok (.iload 6, 2) := by decide +kernel
theorem dX0_worthOfLadder_49 : decode cX0_worthOfLadder 49 = .ok (.iadd, 1) := by decide +kernel
theorem dX0_worthOfLadder_50 : decode cX0_worthOfLadder 50 = .ok (.iload 4, 2) := by decide +kernel
theorem dX0_worthOfLadder_52 : decode cX0_worthOfLadder 52 = .ok (.if_icmp .ge 5, 3) := by decide +kernel
theorem dX0_worthOfLadder_55 : decode cX0_worthOfLadder 55 = .ok (.iconst (-1), 1) := by decide +kernel
theorem dX0_worthOfLadder_56 : decode cX0_worthOfLadder 56 = .ok (.ireturn, 1) := by decide +kernel
theorem dX0_worthOfLadder_57 : decode cX0_worthOfLadder 57 = .ok (.aload_n 0, 1) := by decide +kernel
theorem dX0_worthOfLadder_58 : decode cX0_worthOfLadder 58 = .ok (.getfield 40, 3) := by decide +kernel
theorem dX0_worthOfLadder_61 : decode cX0_worthOfLadder 61 = .ok (.iload 6, 2) := by decide +kernel
theorem dX0_worthOfLadder_63 : decode cX0_worthOfLadder 63 = .ok (.iadd, 1) := by decide +kernel
theorem dX0_worthOfLadder_64 : decode cX0_worthOfLadder 64 = .ok (.aload_n 0, 1) := by decide +kernel
theorem dX0_worthOfLadder_65 : decode cX0_worthOfLadder 65 = .ok (.getfield 52, 3) := by decide +kernel
theorem dX0_worthOfLadder_68 : decode cX0_worthOfLadder 68 = .ok (.iadd, 1) := by decide +kernel
theorem dX0_worthOfLadder_69 : decode cX0_worthOfLadder 69 = .ok (.istore 4, 2) := by decide +kernel
theorem dX0_worthOfLadder_71 : decode cX0_worthOfLadder 71 = .ok (.iload_n 3, 1) := by decide +kernel
theorem dX0_worthOfLadder_72 : decode cX0_worthOfLadder 72 = .ok (.aload_n 0, 1) := by decide +kernel
theorem dX0_worthOfLadder_73 : decode cX0_worthOfLadder 73 = .ok (.getfield 15, 3) := by decide +kernel
theorem dX0_worthOfLadder_76 : decode cX0_worthOfLadder 76 = .ok (.iload 7, 2) := by decide +kernel
theorem dX0_worthOfLadder_78 : decode cX0_worthOfLadder 78 = .ok (.iaload, 1) := by decide +kernel
theorem dX0_worthOfLadder_79 : decode cX0_worthOfLadder 79 = .ok (.invokestatic 61, 3) := by decide +kernel
theorem dX0_worthOfLadder_82 : decode cX0_worthOfLadder 82 = .ok (.istore 8, 2) := by decide +kernel
theorem dX0_worthOfLadder_84 : decode cX0_worthOfLadder 84 = .ok (.iload 5, 2) := by decide +kernel
theorem dX0_worthOfLadder_86 : decode cX0_worthOfLadder 86 = .ok (.iload 8, 2) := by decide +kernel
theorem dX0_worthOfLadder_88 : decode cX0_worthOfLadder 88 = .ok (.aload_n 0, 1) := by decide +kernel
theorem dX0_worthOfLadder_89 : decode cX0_worthOfLadder 89 = .ok (.getfield 9, 3) := by decide +kernel
theorem dX0_worthOfLadder_92 : decode cX0_worthOfLadder 92 = .ok (.iload 7, 2) := by decide +kernel
theorem dX0_worthOfLadder_94 : decode cX0_worthOfLadder 94 = .ok (.iaload, 1) := by decide +kernel
theorem dX0_worthOfLadder_95 : decode cX0_worthOfLadder 95 = .ok (.imul, 1) := by decide +kernel
theorem dX0_worthOfLadder_96 : decode cX0_worthOfLadder 96 = .ok (.iadd, 1) := by decide +kernel
theorem dX0_worthOfLadder_97 : decode cX0_worthOfLadder 97 = .ok (.istore 5, 2) := by decide +kernel
theorem dX0_worthOfLadder_99 : decode cX0_worthOfLadder 99 = .ok (.iload_n 3, 1) := by decide +kernel
theorem dX0_worthOfLadder_100 : decode cX0_worthOfLadder 100 = .ok (.iload 8, 2) := by decide +kernel
theorem dX0_worthOfLadder_102 : decode cX0_worthOfLadder 102 = .ok (.isub, 1) := by decide +kernel
theorem dX0_worthOfLadder_103 : decode cX0_worthOfLadder 103 = .ok (.istore_n 3, 1) := by decide +kernel
theorem dX0_worthOfLadder_104 : decode cX0_worthOfLadder 104 = .ok (.iload 7, 2) := by decide +kernel
theorem dX0_worthOfLadder_106 : decode cX0_worthOfLadder 106 = .ok (.istore_n 2, 1) := by decide +kernel
theorem dX0_worthOfLadder_107 : decode cX0_worthOfLadder 107 = .ok (.iinc 6 1, 3) := by decide +kernel
theorem dX0_worthOfLadder_110 : decode cX0_worthOfLadder 110 = .ok (.goto (-88), 3) := by decide +kernel
theorem dX0_worthOfLadder_113 : decode cX0_worthOfLadder 113 = .ok (.iload 5, 2) := by decide +kernel
theorem dX0_worthOfLadder_115 : decode cX0_worthOfLadder 115 = .ok (.iload_n 3, 1) := by decide +kernel
theorem dX0_worthOfLadder_116 : decode cX0_worthOfLadder 116 = .ok (.aload_n 0, 1) := by decide +kernel
theorem dX0_worthOfLadder_117 : decode cX0_worthOfLadder 117 = .ok (.getfield 56, 3) := by decide +kernel
theorem dX0_worthOfLadder_120 : decode cX0_worthOfLadder 120 = .ok (.imul, 1) := by decide +kernel
theorem dX0_worthOfLadder_121 : decode cX0_worthOfLadder 121 = .ok (.iadd, 1) := by decide +kernel
theorem dX0_worthOfLadder_122 : decode cX0_worthOfLadder 122 = .ok (.ireturn, 1) := by decide +kernel
theorem dX0_turnToNextLadder_0 : decode cX0_turnToNextLadder 0 = .ok (.iload_n 1, 1) := by decide +kernel
theorem dX0_turnToNextLadder_1 : decode cX0_turnToNextLadder 1 = .ok (.iconst 1, 1) := by decide +kernel
theorem dX0_turnToNextLadder_2 : decode cX0_turnToNextLadder 2 = .ok (.isub, 1) := by decide +kernel
theorem dX0_turnToNextLadder_3 : decode cX0_turnToNextLadder 3 = .ok (.istore_n 2, 1) := by decide +kernel
theorem dX0_turnToNextLadder_4 : decode cX0_turnToNextLadder 4 = .ok (.iload_n 2, 1) := by decide +kernel
theorem dX0_turnToNextLadder_5 : decode cX0_turnToNextLadder 5 = .ok (.ifCond .lt 19, 3) := by decide +kernel
theorem dX0_turnToNextLadder_8 : decode cX0_turnToNextLadder 8 = .ok (.aload_n 0, 1) := by decide +kernel
theorem dX0_turnToNextLadder_9 : decode cX0_turnToNextLadder 9 = .ok (.getfield 21, 3) := by decide +kernel
theorem dX0_turnToNextLadder_12 : decode cX0_turnToNextLadder 12 = .ok (.iload_n 2, 1) := by decide +kernel
theorem dX0_turnToNextLadder_13 : decode cX0_turnToNextLadder 13 = .ok (.iaload, 1) := by decide +kernel
theorem dX0_turnToNextLadder_14 : decode cX0_turnToNextLadder 14 = .ok (.iconst 4, 1) := by decide +kernel
theorem dX0_turnToNextLadder_15 : decode cX0_turnToNextLadder 15 = .ok (.if_icmp .ne 9, 3) := by decide +kernel
theorem dX0_turnToNextLadder_18 : decode cX0_turnToNextLadder 18 = .ok (.iinc 2 (-1), 3) := by decide +kernel
theorem dX0_turnToNextLadder_21 : decode cX0_turnToNextLadder 21 = .ok (.goto (-17), 3) := by decide +kernel
theorem dX0_turnToNextLadder_24 : decode cX0_turnToNextLadder 24 = .ok (.iload_n 2, 1) := by decide +kernel
theorem dX0_turnToNextLadder_25 : decode cX0_turnToNextLadder 25 = .ok (.ifCond .ge 5, 3) := by decide +kernel
theorem dX0_turnToNextLadder_28 : decode cX0_turnToNextLadder 28 = .ok (.iconst 0, 1) := by decide +kernel
theorem dX0_turnToNextLadder_29 : decode cX0_turnToNextLadder 29 = .ok (.ireturn, 1) := by decide +kernel
theorem dX0_turnToNextLadder_30 : decode cX0_turnToNextLadder 30 = .ok (.aload_n 0, 1) := by decide +kernel
theorem dX0_turnToNextLadder_31 : decode cX0_turnToNextLadder 31 = .ok (.getfield 21, 3) := by decide +kernel
theorem dX0_turnToNextLadder_34 : decode cX0_turnToNextLadder 34 = .ok (.iload_n 2, 1) := by decide +kernel
theorem dX0_turnToNextLadder_35 : decode cX0_turnToNextLadder 35 = .ok (.iaload, 1) := by decide +kernel
theorem dX0_turnToNextLadder_36 : decode cX0_turnToNextLadder 36 = .ok (.iconst 1, 1) := by decide +kernel
theorem dX0_turnToNextLadder_37 : decode cX0_turnToNextLadder 37 = .ok (.iadd, 1) := by decide +kernel
theorem dX0_turnToNextLadder_38 : decode cX0_turnToNextLadder 38 = .ok (.istore_n 3, 1) := by decide +kernel
theorem dX0_turnToNextLadder_39 : decode cX0_turnToNextLadder 39 = .ok (.iload_n 2, 1) := by decide +kernel
theorem dX0_turnToNextLadder_40 : decode cX0_turnToNextLadder 40 = .ok (.istore 4, 2) := by decide +kernel
theorem dX0_turnToNextLadder_42 : decode cX0_turnToNextLadder 42 = .ok (.iload 4, 2) := by decide +kernel
theorem dX0_turnToNextLadder_44 : decode cX0_turnToNextLadder 44 = .ok (.iload_n 1, 1) := by decide +kernel
theorem dX0_turnToNextLadder_45 : decode cX0_turnToNextLadder 45 = .ok (.if_icmp .ge 17, 3) := by decide +kernel
theorem dX0_turnToNextLadder_48 : decode cX0_turnToNextLadder 48 = .ok (.aload_n 0, 1) := by decide +kernel
theorem dX0_turnToNextLadder_49 : decode cX0_turnToNextLadder 49 = .ok (.getfield 21, 3) := by decide +kernel
theorem dX0_turnToNextLadder_52 : decode cX0_turnToNextLadder 52 = .ok (.iload 4, 2) := by decide +kernel
theorem dX0_turnToNextLadder_54 : decode cX0_turnToNextLadder 54 = .ok (.iload_n 3, 1) := by decide +kernel
theorem dX0_turnToNextLadder_55 : decode cX0_turnToNextLadder 55 = .ok (.iastore, 1) := by decide +kernel
theorem dX0_turnToNextLadder_56 : decode cX0_turnToNextLadder 56 = .ok (.iinc 4 1, 3) := by decide +kernel
theorem dX0_turnToNextLadder_59 : decode cX0_turnToNextLadder 59 = .ok (.goto (-17), 3) := by decide +kernel
theorem dX0_turnToNextLadder_62 : decode cX0_turnToNextLadder 62 = .ok (.iconst 1, 1) := by decide +kernel
theorem dX0_turnToNextLadder_63 : decode cX0_turnToNextLadder 63 = .ok (.ireturn, 1) := by decide +kernel
theorem dX1_init_0 : decode cX1_init 0 = .ok (.aload_n 0, 1) := by decide +kernel
theorem dX1_init_1 : decode cX1_init 1 = .ok (.invokespecial 3, 3) := by decide +kernel
theorem dX1_init_4 : decode cX1_init 4 = .ok (.aload_n 0, 1) := by decide +kernel
theorem dX1_init_5 : decode cX1_init 5 = .ok (.iconst 5, 1) := by decide +kernel
theorem dX1_init_6 : decode cX1_init 6 = .ok (.newarray .int, 2) := by decide +kernel
theorem dX1_init_8 : decode cX1_init 8 = .ok (.putfield 9, 3) := by decide +kernel
theorem dX1_init_11 : decode cX1_init 11 = .ok (.aload_n 0, 1) := by decide +kernel
theorem dX1_init_12 : decode cX1_init 12 = .ok (.bipush 8, 2) := by decide +kernel
theorem dX1_init_14 : decode cX1_init 14 = .ok (.putfield 15, 3) := by decide +kernel
theorem dX1_init_17 : decode cX1_init 17 = .ok (.aload_n 0, 1) := by decide +kernel
theorem dX1_init_18 : decode cX1_init 18 = .ok (.iconst 2, 1) := by decide +kernel
theorem dX1_init_19 : decode cX1_init 19 = .ok (.putfield 19, 3) := by decide +kernel
theorem dX1_init_22 : decode cX1_init 22 = .ok (.iconst 0, 1) := by decide +kernel
theorem dX1_init_23 : decode cX1_init 23 = .ok (.istore_n 1, 1) := by decide +kernel
theorem dX1_init_24 : decode cX1_init 24 = .ok (.iload_n 1, 1) := by decide +kernel
theorem dX1_init_25 : decode cX1_init 25 = .ok (.iconst 5, 1) := by decide +kernel
theorem dX1_init_26 : decode cX1_init 26 = .ok (.if_icmp .ge 17, 3) := by decide +kernel
theorem dX1_init_29 : decode cX1_init 29 = .ok (.aload_n 0, 1) := by decide +kernel
theorem dX1_init_30 : decode cX1_init 30 = .ok (.getfield 9, 3) := by decide +kernel
theorem dX1_init_33 : decode cX1_init 33 = .ok (.iload_n 1, 1) := by decide +kernel
theorem dX1_init_34 : decode cX1_init 34 = .ok (.bipush 100, 2) := by decide +kernel
theorem dX1_init_36 : decode cX1_init 36 = .ok (.iastore, 1) := by decide +kernel
theorem dX1_init_37 : decode cX1_init 37 = .ok (.iinc 1 1, 3) := by decide +kernel
theorem dX1_init_40 : decode cX1_init 40 = .ok (.goto (-16), 3) := by decide +kernel
theorem dX1_init_43 : decode cX1_init 43 = .ok (.return_, 1) := by decide +kernel
theorem dX1_startAnew_0 : decode cX1_startAnew 0 = .ok (.aload_n 0, 1) := by decide +kernel
theorem dX1_startAnew_1 : decode cX1_startAnew 1 = .ok (.iload_n 1, 1) := by decide +kernel
theorem dX1_startAnew_2 : decode cX1_startAnew 2 = .ok (.putfield 15, 3) := by decide +kernel
theorem dX1_startAnew_5 : decode cX1_startAnew 5 = .ok (.aload_n 0, 1) := by decide +kernel
theorem dX1_startAnew_6 : decode cX1_startAnew 6 = .ok (.iconst 0, 1) := by decide +kernel
theorem dX1_startAnew_7 : decode cX1_startAnew 7 = .ok (.putfield 22, 3) := by decide +kernel
theorem dX1_startAnew_10 : decode cX1_startAnew 10 = .ok (.aload_n 0, 1) := by decide +kernel
theorem dX1_startAnew_11 : decode cX1_startAnew 11 = .ok (.iconst 0, 1) := by decide +kernel
theorem dX1_startAnew_12 : decode cX1_startAnew 12 = .ok (.putfield 25, 3) := by decide +kernel
theorem dX1_startAnew_15 : decode cX1_startAnew 15 = .ok (.return_, 1) := by decide +kernel
theorem dX1_keepsLadderDown_0 : decode cX1_keepsLadderDown 0 = .ok (.iload_n 1, 1) := by decide +kernel
theorem dX1_keepsLadderDown_1 : decode cX1_keepsLadderDown 1 = .ok (.ifCond .le 15, 3) := by decide +kernel
theorem dX1_keepsLadderDown_4 : decode cX1_keepsLadderDown 4 = .ok (.iload_n 2, 1) := by decide +kernel
theorem dX1_keepsLadderDown_5 : decode cX1_keepsLadderDown 5 = .ok (.aload_n 0, 1) := by decide +kernel
theorem dX1_keepsLadderDown_6 : decode cX1_keepsLadderDown 6 = .ok (.getfield 9, 3) := by decide +kernel
theorem dX1_keepsLadderDown_9 : decode cX1_keepsLadderDown 9 = .ok (.iload_n 1, 1) := by decide +kernel
theorem dX1_keepsLadderDown_10 : decode cX1_keepsLadderDown 10 = .ok (.iconst 1, 1) := by decide +kernel
theorem dX1_keepsLadderDown_11 : decode cX1_keepsLadderDown 11 = .ok (.isub, 1) := by decide +kernel
theorem dX1_keepsLadderDown_12 : decode cX1_keepsLadderDown 12 = .ok (.iaload, 1) := by decide +kernel
theorem dX1_keepsLadderDown_13 : decode cX1_keepsLadderDown 13 = .ok (.if_icmp .gt 7, 3) := by decide +kernel
theorem dX1_keepsLadderDown_16 : decode cX1_keepsLadderDown 16 = .ok (.iconst 1, 1) := by decide +kernel
theorem dX1_keepsLadderDown_17 : decode cX1_keepsLadderDown 17 = .ok (.goto 4, 3) := by decide +kernel
theorem dX1_keepsLadderDown_20 : decode cX1_keepsLadderDown 20 = .ok (.iconst 0, 1) := by decide +kernel
theorem dX1_keepsLadderDown_21 : decode cX1_keepsLadderDown 21 = .ok (.istore_n 3, 1) := by decide +kernel
theorem dX1_keepsLadderDown_22 : decode cX1_keepsLadderDown 22 = .ok (.iload_n 1, 1) := by decide +kernel
theorem dX1_keepsLadderDown_23 : decode cX1_keepsLadderDown 23 = .ok (.iconst 4, 1) := by decide +kernel
theorem dX1_keepsLadderDown_24 : decode cX1_keepsLadderDown 24 = .ok (.if_icmp .ge 15, 3) := by decide +kernel
theorem dX1_keepsLadderDown_27 : decode cX1_keepsLadderDown 27 = .ok (.iload_n 2, 1) := by decide +kernel
theorem dX1_keepsLadderDown_28 : decode cX1_keepsLadderDown 28 = .ok (.aload_n 0, 1) := by decide +kernel
theorem dX1_keepsLadderDown_29 : decode cX1_keepsLadderDown 29 = .ok (.getfield 9, 3) := by decide +kernel
theorem dX1_keepsLadderDown_32 : decode cX1_keepsLadderDown 32 = .ok (.iload_n 1, 1) := by decide +kernel
theorem dX1_keepsLadderDown_33 : decode cX1_keepsLadderDown 33 = .ok (.iconst 1, 1) := by decide +kernel
theorem dX1_keepsLadderDown_34 : decode cX1_keepsLadderDown 34 = .ok (.iadd, 1) := by decide +kernel
theorem dX1_keepsLadderDown_35 : decode cX1_keepsLadderDown 35 = .ok (.iaload, 1) := by decide +kernel
theorem dX1_keepsLadderDown_36 : decode cX1_keepsLadderDown 36 = .ok (.if_icmp .lt 7, 3) := by decide +kernel
theorem dX1_keepsLadderDown_39 : decode cX1_keepsLadderDown 39 = .ok (.iconst 1, 1) := by decide +kernel
theorem dX1_keepsLadderDown_40 : decode cX1_keepsLadderDown 40 = .ok (.goto 4, 3) := by decide +kernel
theorem dX1_keepsLadderDown_43 : decode cX1_keepsLadderDown 43 = .ok (.iconst 0, 1) := by decide +kernel
theorem dX1_keepsLadderDown_44 : decode cX1_keepsLadderDown 44 = .ok (.istore 4, 2) := by decide +kernel
theorem dX1_keepsLadderDown_46 : decode cX1_keepsLadderDown 46 = .ok (.iload_n 3, 1) := by decide +kernel
theorem dX1_keepsLadderDown_47 : decode cX1_keepsLadderDown 47 = .ok (.ifCond .eq 12, 3) := by decide +kernel
theorem dX1_keepsLadderDown_50 : decode cX1_keepsLadderDown 50 = .ok (.iload 4, 2) := by decide +kernel
theorem dX1_keepsLadderDown_52 : decode cX1_keepsLadderDown 52 = .ok (.ifCond .eq 7, 3) := by decide +kernel
theorem dX1_keepsLadderDown_55 : decode cX1_keepsLadderDown 55 = .ok (.iconst 1, 1) := by decide +kernel
theorem dX1_keepsLadderDown_56 : decode cX1_keepsLadderDown 56 = .ok (.goto 4, 3) := by decide +kernel
theorem dX1_keepsLadderDown_59 : decode cX1_keepsLadderDown 59 = .ok (.iconst 0, 1) := by decide +kernel
theorem dX1_keepsLadderDown_60 : decode cX1_keepsLadderDown 60 = .ok (.ireturn, 1) := by decide +kernel
theorem dX2_init_0 : decode cX2_init 0 = .ok (.aload_n 0, 1) := by decide +kernel
theorem dX2_init_1 : decode cX2_init 1 = .ok (.invokespecial 3, 3) := by decide +kernel
theorem dX2_init_4 : decode cX2_init 4 = .ok (.aload_n 0, 1) := by decide +kernel
theorem dX2_init_5 : decode cX2_init 5 = .ok (.iconst 5, 1) := by decide +kernel
theorem dX2_init_6 : decode cX2_init 6 = .ok (.newarray .int, 2) := by decide +kernel
theorem dX2_init_8 : decode cX2_init 8 = .ok (.putfield 9, 3) := by decide +kernel
theorem dX2_init_11 : decode cX2_init 11 = .ok (.aload_n 0, 1) := by decide +kernel
theorem dX2_init_12 : decode cX2_init 12 = .ok (.iconst 3, 1) := by decide +kernel
theorem dX2_init_13 : decode cX2_init 13 = .ok (.newarray .int, 2) := by decide +kernel
theorem dX2_init_15 : decode cX2_init 15 = .ok (.putfield 15, 3) := by decide +kernel
theorem dX2_init_18 : decode cX2_init 18 = .ok (.aload_n 0, 1) := by decide +kernel
theorem dX2_init_19 : decode cX2_init 19 = .ok (.iconst (-1), 1) := by decide +kernel
theorem dX2_init_20 : decode cX2_init 20 = .ok (.putfield 18, 3) := by decide +kernel
theorem dX2_init_23 : decode cX2_init 23 = .ok (.return_, 1) := by decide +kernel
theorem dX2_startAnew_0 : decode cX2_startAnew 0 = .ok (.aload_n 0, 1) := by decide +kernel
theorem dX2_startAnew_1 : decode cX2_startAnew 1 = .ok (.iconst 0, 1) := by decide +kernel
theorem dX2_startAnew_2 : decode cX2_startAnew 2 = .ok (.putfield 22, 3) := by decide +kernel
theorem dX2_startAnew_5 : decode cX2_startAnew 5 = .ok (.aload_n 0, 1) := by decide +kernel
theorem dX2_startAnew_6 : decode cX2_startAnew 6 = .ok (.iconst (-1), 1) := by decide +kernel
theorem dX2_startAnew_7 : decode cX2_startAnew 7 = .ok (.putfield 18, 3) := by decide +kernel
theorem dX2_startAnew_10 : decode cX2_startAnew 10 = .ok (.aload_n 0, 1) := by decide +kernel
theorem dX2_startAnew_11 : decode cX2_startAnew 11 = .ok (.iconst 0, 1) := by decide +kernel
theorem dX2_startAnew_12 : decode cX2_startAnew 12 = .ok (.putfield 25, 3) := by decide +kernel
theorem dX2_startAnew_15 : decode cX2_startAnew 15 = .ok (.return_, 1) := by decide +kernel
theorem dX2_waitFrom_0 : decode cX2_waitFrom 0 = .ok (.aload_n 0, 1) := by decide +kernel
theorem dX2_waitFrom_1 : decode cX2_waitFrom 1 = .ok (.getfield 18, 3) := by decide +kernel
theorem dX2_waitFrom_4 : decode cX2_waitFrom 4 = .ok (.iconst (-1), 1) := by decide +kernel
theorem dX2_waitFrom_5 : decode cX2_waitFrom 5 = .ok (.if_icmp .ne 7, 3) := by decide +kernel
theorem dX2_waitFrom_8 : decode cX2_waitFrom 8 = .ok (.iconst 0, 1) := by decide +kernel
theorem dX2_waitFrom_9 : decode cX2_waitFrom 9 = .ok (.goto 15, 3) := by decide +kernel
theorem dX2_waitFrom_12 : decode cX2_waitFrom 12 = .ok (.iconst 0, 1) := by decide +kernel
theorem dX2_waitFrom_13 : decode cX2_waitFrom 13 = .ok (.aload_n 0, 1) := by decide +kernel
theorem dX2_waitFrom_14 : decode cX2_waitFrom 14 = .ok (.getfield 18, 3) := by decide +kernel
theorem dX2_waitFrom_17 : decode cX2_waitFrom 17 = .ok (.iload_n 2, 1) := by decide +kernel
theorem dX2_waitFrom_18 : decode cX2_waitFrom 18 = .ok (.iadd, 1) := by decide +kernel
theorem dX2_waitFrom_19 : decode cX2_waitFrom 19 = .ok (.iload_n 1, 1) := by decide +kernel
theorem dX2_waitFrom_20 : decode cX2_waitFrom 20 = .ok (.isub, 1) := by decide +kernel
theorem dX2_waitFrom_21 : decode cX2_waitFrom 21 = .ok (.invokestatic 28, 3) := by decide +kernel
theorem dX2_waitFrom_24 : decode cX2_waitFrom 24 = .ok (.ireturn, 1) := by decide +kernel
theorem dX2_wholeStock_0 : decode cX2_wholeStock 0 = .ok (.iconst 0, 1) := by decide +kernel
theorem dX2_wholeStock_1 : decode cX2_wholeStock 1 = .ok (.istore_n 1, 1) := by decide +kernel
theorem dX2_wholeStock_2 : decode cX2_wholeStock 2 = .ok (.iconst 0, 1) := by decide +kernel
theorem dX2_wholeStock_3 : decode cX2_wholeStock 3 = .ok (.istore_n 2, 1) := by decide +kernel
theorem dX2_wholeStock_4 : decode cX2_wholeStock 4 = .ok (.iload_n 2, 1) := by decide +kernel
theorem dX2_wholeStock_5 : decode cX2_wholeStock 5 = .ok (.iconst 3, 1) := by decide +kernel
theorem dX2_wholeStock_6 : decode cX2_wholeStock 6 = .ok (.if_icmp .ge 18, 3) := by decide +kernel
theorem dX2_wholeStock_9 : decode cX2_wholeStock 9 = .ok (.iload_n 1, 1) := by decide +kernel
theorem dX2_wholeStock_10 : decode cX2_wholeStock 10 = .ok (.aload_n 0, 1) := by decide +kernel
theorem dX2_wholeStock_11 : decode cX2_wholeStock 11 = .ok (.getfield 15, 3) := by decide +kernel
theorem dX2_wholeStock_14 : decode cX2_wholeStock 14 = .ok (.iload_n 2, 1) := by decide +kernel
theorem dX2_wholeStock_15 : decode cX2_wholeStock 15 = .ok (.iaload, 1) := by decide +kernel
theorem dX2_wholeStock_16 : decode cX2_wholeStock 16 = .ok (.iadd, 1) := by decide +kernel
theorem dX2_wholeStock_17 : decode cX2_wholeStock 17 = .ok (.istore_n 1, 1) := by decide +kernel
theorem dX2_wholeStock_18 : decode cX2_wholeStock 18 = .ok (.iinc 2 1, 3) := by decide +kernel
theorem dX2_wholeStock_21 : decode cX2_wholeStock 21 = .ok (.goto (-17), 3) := by decide +kernel
theorem dX2_wholeStock_24 : decode cX2_wholeStock 24 = .ok (.iload_n 1, 1) := by decide +kernel
theorem dX2_wholeStock_25 : decode cX2_wholeStock 25 = .ok (.ireturn, 1) := by decide +kernel
theorem dX2_sizesInStock_0 : decode cX2_sizesInStock 0 = .ok (.iconst 0, 1) := by decide +kernel
theorem dX2_sizesInStock_1 : decode cX2_sizesInStock 1 = .ok (.istore_n 1, 1) := by decide +kernel
theorem dX2_sizesInStock_2 : decode cX2_sizesInStock 2 = .ok (.iconst 0, 1) := by decide +kernel
theorem dX2_sizesInStock_3 : decode cX2_sizesInStock 3 = .ok (.istore_n 2, 1) := by decide +kernel
theorem dX2_sizesInStock_4 : decode cX2_sizesInStock 4 = .ok (.iload_n 2, 1) := by decide +kernel
theorem dX2_sizesInStock_5 : decode cX2_sizesInStock 5 = .ok (.iconst 3, 1) := by decide +kernel
theorem dX2_sizesInStock_6 : decode cX2_sizesInStock 6 = .ok (.if_icmp .ge 21, 3) := by decide +kernel
theorem dX2_sizesInStock_9 : decode cX2_sizesInStock 9 = .ok (.aload_n 0, 1) := by decide +kernel
theorem dX2_sizesInStock_10 : decode cX2_sizesInStock 10 = .ok (.getfield 15, 3) := by decide +kernel
theorem dX2_sizesInStock_13 : decode cX2_sizesInStock 13 = .ok (.iload_n 2, 1) := by decide +kernel
theorem dX2_sizesInStock_14 : decode cX2_sizesInStock 14 = .ok (.iaload, 1) := by decide +kernel
theorem dX2_sizesInStock_15 : decode cX2_sizesInStock 15 = .ok (.ifCond .le 6, 3) := by decide +kernel
theorem dX2_sizesInStock_18 : decode cX2_sizesInStock 18 = .ok (.iinc 1 1, 3) := by decide +kernel
theorem dX2_sizesInStock_21 : decode cX2_sizesInStock 21 = .ok (.iinc 2 1, 3) := by decide +kernel
theorem dX2_sizesInStock_24 : decode cX2_sizesInStock 24 = .ok (.goto (-20), 3) := by decide +kernel
theorem dX2_sizesInStock_27 : decode cX2_sizesInStock 27 = .ok (.iload_n 1, 1) := by decide +kernel
theorem dX2_sizesInStock_28 : decode cX2_sizesInStock 28 = .ok (.ireturn, 1) := by decide +kernel
theorem dX2_salesAt_0 : decode cX2_salesAt 0 = .ok (.aload_n 0, 1) := by decide +kernel
theorem dX2_salesAt_1 : decode cX2_salesAt 1 = .ok (.getfield 9, 3) := by decide +kernel
theorem dX2_salesAt_4 : decode cX2_salesAt 4 = .ok (.iload_n 1, 1) := by decide +kernel
theorem dX2_salesAt_5 : decode cX2_salesAt 5 = .ok (.iaload, 1) := by decide +kernel
theorem dX2_salesAt_6 : decode cX2_salesAt 6 = .ok (.aload_n 0, 1) := by decide +kernel
theorem dX2_salesAt_7 : decode cX2_salesAt 7 = .ok (.invokevirtual 34, 3) := by decide +kernel
theorem dX2_salesAt_10 : decode cX2_salesAt 10 = .ok (.imul, 1) := by decide +kernel
theorem dX2_salesAt_11 : decode cX2_salesAt 11 = .ok (.iconst 3, 1) := by decide +kernel
theorem dX2_salesAt_12 : decode cX2_salesAt 12 = .ok (.idiv, 1) := by decide +kernel
theorem dX2_salesAt_13 : decode cX2_salesAt 13 = .ok (.aload_n 0, 1) := by decide +kernel
theorem dX2_salesAt_14 : decode cX2_salesAt 14 = .ok (.invokevirtual 38, 3) := by decide +kernel
theorem dX2_salesAt_17 : decode cX2_salesAt 17 = .ok (.invokestatic 41, 3) := by decide +kernel
theorem dX2_salesAt_20 : decode cX2_salesAt 20 = .ok (.ireturn, 1) := by decide +kernel
theorem dX2_sellForAWeek_0 : decode cX2_sellForAWeek 0 = .ok (.aload_n 0, 1) := by decide +kernel
theorem dX2_sellForAWeek_1 : decode cX2_sellForAWeek 1 = .ok (.aload_n 0, 1) := by decide +kernel
theorem dX2_sellForAWeek_2 : decode cX2_sellForAWeek 2 = .ok (.getfield 22, 3) := by decide +kernel
theorem dX2_sellForAWeek_5 : decode cX2_sellForAWeek 5 = .ok (.invokevirtual 44, 3) := by decide +kernel
theorem dX2_sellForAWeek_8 : decode cX2_sellForAWeek 8 = .ok (.istore_n 1, 1) := by decide +kernel
theorem dX2_sellForAWeek_9 : decode cX2_sellForAWeek 9 = .ok (.iconst 0, 1) := by decide +kernel
theorem dX2_sellForAWeek_10 : decode cX2_sellForAWeek 10 = .ok (.istore_n 2, 1) := by decide +kernel
theorem dX2_sellForAWeek_11 : decode cX2_sellForAWeek 11 = .ok (.iload_n 2, 1) := by decide +kernel
theorem dX2_sellForAWeek_12 : decode cX2_sellForAWeek 12 = .ok (.iload_n 1, 1) := by decide +kernel
theorem dX2_sellForAWeek_13 : decode cX2_sellForAWeek 13 = .ok (.if_icmp .ge 22, 3) := by decide +kernel
theorem dX2_sellForAWeek_16 : decode cX2_sellForAWeek 16 = .ok (.aload_n 0, 1) := by decide +kernel
theorem dX2_sellForAWeek_17 : decode cX2_sellForAWeek 17 = .ok (.getfield 15, 3) := by decide +kernel
theorem dX2_sellForAWeek_20 : decode cX2_sellForAWeek 20 = .ok (.aload_n 0, 1) := by decide +kernel
theorem dX2_sellForAWeek_21 : decode cX2_sellForAWeek 21 = .ok (.invokevirtual 48, 3) := by decide +kernel
theorem dX2_sellForAWeek_24 : decode cX2_sellForAWeek 24 = .ok (.dup2, 1) := by decide +kernel
theorem dX2_sellForAWeek_25 : decode cX2_sellForAWeek 25 = .ok (.iaload, 1) := by decide +kernel
theorem dX2_sellForAWeek_26 : decode cX2_sellForAWeek 26 = .ok (.iconst 1, 1) := by decide +kernel
theorem dX2_sellForAWeek_27 : decode cX2_sellForAWeek 27 = .ok (.isub, 1) := by decide +kernel
theorem dX2_sellForAWeek_28 : decode cX2_sellForAWeek 28 = .ok (.iastore, 1) := by decide +kernel
theorem dX2_sellForAWeek_29 : decode cX2_sellForAWeek 29 = .ok (.iinc 2 1, 3) := by decide +kernel
theorem dX2_sellForAWeek_32 : decode cX2_sellForAWeek 32 = .ok (.goto (-21), 3) := by decide +kernel
theorem dX2_sellForAWeek_35 : decode cX2_sellForAWeek 35 = .ok (.aload_n 0, 1) := by decide +kernel
theorem dX2_sellForAWeek_36 : decode cX2_sellForAWeek 36 = .ok (.dup, 1) := by decide +kernel
theorem dX2_sellForAWeek_37 : decode cX2_sellForAWeek 37 = .ok (.getfield 25, 3) := by decide +kernel
theorem dX2_sellForAWeek_40 : decode cX2_sellForAWeek 40 = .ok (.iload_n 1, 1) := by decide +kernel
theorem dX2_sellForAWeek_41 : decode cX2_sellForAWeek 41 = .ok (.iadd, 1) := by decide +kernel
theorem dX2_sellForAWeek_42 : decode cX2_sellForAWeek 42 = .ok (.putfield 25, 3) := by decide +kernel
theorem dX2_sellForAWeek_45 : decode cX2_sellForAWeek 45 = .ok (.iload_n 1, 1) := by decide +kernel
theorem dX2_sellForAWeek_46 : decode cX2_sellForAWeek 46 = .ok (.ireturn, 1) := by decide +kernel
theorem dX2_fullestSize_0 : decode cX2_fullestSize 0 = .ok (.iconst 0, 1) := by decide +kernel
theorem dX2_fullestSize_1 : decode cX2_fullestSize 1 = .ok (.istore_n 1, 1) := by decide +kernel
theorem dX2_fullestSize_2 : decode cX2_fullestSize 2 = .ok (.iconst 1, 1) := by decide +kernel
theorem dX2_fullestSize_3 : decode cX2_fullestSize 3 = .ok (.istore_n 2, 1) := by decide +kernel
theorem dX2_fullestSize_4 : decode cX2_fullestSize 4 = .ok (.iload_n 2, 1) := by decide +kernel
theorem dX2_fullestSize_5 : decode cX2_fullestSize 5 = .ok (.iconst 3, 1) := by decide +kernel
theorem dX2_fullestSize_6 : decode cX2_fullestSize 6 = .ok (.if_icmp .ge 26, 3) := by decide +kernel
theorem dX2_fullestSize_9 : decode cX2_fullestSize 9 = .ok (.aload_n 0, 1) := by decide +kernel
theorem dX2_fullestSize_10 : decode cX2_fullestSize 10 = .ok (.getfield 15, 3) := by decide +kernel
theorem dX2_fullestSize_13 : decode cX2_fullestSize 13 = .ok (.iload_n 2, 1) := by decide +kernel
theorem dX2_fullestSize_14 : decode cX2_fullestSize 14 = .ok (.iaload, 1) := by decide +kernel
theorem dX2_fullestSize_15 : decode cX2_fullestSize 15 = .ok (.aload_n 0, 1) := by decide +kernel
theorem dX2_fullestSize_16 : decode cX2_fullestSize 16 = .ok (.getfield 15, 3) := by decide +kernel
theorem dX2_fullestSize_19 : decode cX2_fullestSize 19 = .ok (.iload_n 1, 1) := by decide +kernel
theorem dX2_fullestSize_20 : decode cX2_fullestSize 20 = .ok (.iaload, 1) := by decide +kernel
theorem dX2_fullestSize_21 : decode cX2_fullestSize 21 = .ok (.if_icmp .le 5, 3) := by decide +kernel
theorem dX2_fullestSize_24 : decode cX2_fullestSize 24 = .ok (.iload_n 2, 1) := by decide +kernel
theorem dX2_fullestSize_25 : decode cX2_fullestSize 25 = .ok (.istore_n 1, 1) := by decide +kernel
theorem dX2_fullestSize_26 : decode cX2_fullestSize 26 = .ok (.iinc 2 1, 3) := by decide +kernel
theorem dX2_fullestSize_29 : decode cX2_fullestSize 29 = .ok (.goto (-25), 3) := by decide +kernel
theorem dX2_fullestSize_32 : decode cX2_fullestSize 32 = .ok (.iload_n 1, 1) := by decide +kernel
theorem dX2_fullestSize_33 : decode cX2_fullestSize 33 = .ok (.ireturn, 1) := by decide +kernel
theorem dX3_init_0 : decode cX3_init 0 = .ok (.aload_n 0, 1) := by decide +kernel
theorem dX3_init_1 : decode cX3_init 1 = .ok (.invokespecial 3, 3) := by decide +kernel
theorem dX3_init_4 : decode cX3_init 4 = .ok (.aload_n 0, 1) := by decide +kernel
theorem dX3_init_5 : decode cX3_init 5 = .ok (.new 9, 3) := by decide +kernel
theorem dX3_init_8 : decode cX3_init 8 = .ok (.dup, 1) := by decide +kernel
theorem dX3_init_9 : decode cX3_init 9 = .ok (.invokespecial 11, 3) := by decide +kernel
theorem dX3_init_12 : decode cX3_init 12 = .ok (.putfield 12, 3) := by decide +kernel
theorem dX3_init_15 : decode cX3_init 15 = .ok (.aload_n 0, 1) := by decide +kernel
theorem dX3_init_16 : decode cX3_init 16 = .ok (.iconst 3, 1) := by decide +kernel
theorem dX3_init_17 : decode cX3_init 17 = .ok (.anewarray 16, 3) := by decide +kernel
theorem dX3_init_20 : decode cX3_init 20 = .ok (.putfield 18, 3) := by decide +kernel
theorem dX3_init_23 : decode cX3_init 23 = .ok (.aload_n 0, 1) := by decide +kernel
theorem dX3_init_24 : decode cX3_init 24 = .ok (.new 22, 3) := by decide +kernel
theorem dX3_init_27 : decode cX3_init 27 = .ok (.dup, 1) := by decide +kernel
theorem dX3_init_28 : decode cX3_init 28 = .ok (.invokespecial 24, 3) := by decide +kernel
theorem dX3_init_31 : decode cX3_init 31 = .ok (.putfield 25, 3) := by decide +kernel
theorem dX3_init_34 : decode cX3_init 34 = .ok (.iconst 0, 1) := by decide +kernel
theorem dX3_init_35 : decode cX3_init 35 = .ok (.istore_n 1, 1) := by decide +kernel
theorem dX3_init_36 : decode cX3_init 36 = .ok (.iload_n 1, 1) := by decide +kernel
theorem dX3_init_37 : decode cX3_init 37 = .ok (.iconst 3, 1) := by decide +kernel
theorem dX3_init_38 : decode cX3_init 38 = .ok (.if_icmp .ge 22, 3) := by decide +kernel
theorem dX3_init_41 : decode cX3_init 41 = .ok (.aload_n 0, 1) := by decide +kernel
theorem dX3_init_42 : decode cX3_init 42 = .ok (.getfield 18, 3) := by decide +kernel
theorem dX3_init_45 : decode cX3_init 45 = .ok (.iload_n 1, 1) := by decide +kernel
theorem dX3_init_46 : decode cX3_init 46 = .ok (.new 16, 3) := by decide +kernel
theorem dX3_init_49 : decode cX3_init 49 = .ok (.dup, 1) := by decide +kernel
theorem dX3_init_50 : decode cX3_init 50 = .ok (.invokespecial 29, 3) := by decide +kernel
theorem dX3_init_53 : decode cX3_init 53 = .ok (.aastore, 1) := by decide +kernel
theorem dX3_init_54 : decode cX3_init 54 = .ok (.iinc 1 1, 3) := by decide +kernel
theorem dX3_init_57 : decode cX3_init 57 = .ok (.goto (-21), 3) := by decide +kernel
theorem dX3_init_60 : decode cX3_init 60 = .ok (.return_, 1) := by decide +kernel
theorem dX3_begin_0 : decode cX3_begin 0 = .ok (.iload_n 1, 1) := by decide +kernel
theorem dX3_begin_1 : decode cX3_begin 1 = .ok (.iconst 1, 1) := by decide +kernel
theorem dX3_begin_2 : decode cX3_begin 2 = .ok (.bipush 10, 2) := by decide +kernel
theorem dX3_begin_4 : decode cX3_begin 4 = .ok (.invokestatic 30, 3) := by decide +kernel
theorem dX3_begin_7 : decode cX3_begin 7 = .ok (.aload_n 0, 1) := by decide +kernel
theorem dX3_begin_8 : decode cX3_begin 8 = .ok (.getfield 12, 3) := by decide +kernel
theorem dX3_begin_11 : decode cX3_begin 11 = .ok (.getfield 34, 3) := by decide +kernel
theorem dX3_begin_14 : decode cX3_begin 14 = .ok (.istore_n 2, 1) := by decide +kernel
theorem dX3_begin_15 : decode cX3_begin 15 = .ok (.aload_n 0, 1) := by decide +kernel
theorem dX3_begin_16 : decode cX3_begin 16 = .ok (.getfield 12, 3) := by decide +kernel
theorem dX3_begin_19 : decode cX3_begin 19 = .ok (.iload_n 1, 1) := by decide +kernel
theorem dX3_begin_20 : decode cX3_begin 20 = .ok (.invokevirtual 38, 3) := by decide +kernel
theorem dX3_begin_23 : decode cX3_begin 23 = .ok (.aload_n 0, 1) := by decide +kernel
theorem dX3_begin_24 : decode cX3_begin 24 = .ok (.getfield 18, 3) := by decide +kernel
theorem dX3_begin_27 : decode cX3_begin 27 = .ok (.astore_n 3, 1) := by decide +kernel
theorem dX3_begin_28 : decode cX3_begin 28 = .ok (.aload_n 3, 1) := by decide +kernel
theorem dX3_begin_29 : decode cX3_begin 29 = .ok (.arraylength, 1) := by decide +kernel
theorem dX3_begin_30 : decode cX3_begin 30 = .ok (.istore 4, 2) := by decide +kernel
theorem dX3_begin_32 : decode cX3_begin 32 = .ok (.iconst 0, 1) := by decide +kernel
theorem dX3_begin_33 : decode cX3_begin 33 = .ok (.istore 5, 2) := by decide +kernel
theorem dX3_begin_35 : decode cX3_begin 35 = .ok (.iload 5, 2) := by decide +kernel
theorem dX3_begin_37 : decode cX3_begin 37 = .ok (.iload 4, 2) := by decide +kernel
theorem dX3_begin_39 : decode cX3_begin 39 = .ok (.if_icmp .ge 20, 3) := by decide +kernel
theorem dX3_begin_42 : decode cX3_begin 42 = .ok (.aload_n 3, 1) := by decide +kernel
theorem dX3_begin_43 : decode cX3_begin 43 = .ok (.iload 5, 2) := by decide +kernel
theorem dX3_begin_45 : decode cX3_begin 45 = .ok (.aaload, 1) := by decide +kernel
theorem dX3_begin_46 : decode cX3_begin 46 = .ok (.astore 6, 2) := by decide +kernel
theorem dX3_begin_48 : decode cX3_begin 48 = .ok (.aload 6, 2) := by decide +kernel
theorem dX3_begin_50 : decode cX3_begin 50 = .ok (.invokevirtual 42, 3) := by decide +kernel
theorem dX3_begin_53 : decode cX3_begin 53 = .ok (.iinc 5 1, 3) := by decide +kernel
theorem dX3_begin_56 : decode cX3_begin 56 = .ok (.goto (-21), 3) := by decide +kernel
theorem dX3_begin_59 : decode cX3_begin 59 = .ok (.iload_n 2, 1) := by decide +kernel
theorem dX3_begin_60 : decode cX3_begin 60 = .ok (.ireturn, 1) := by decide +kernel
theorem dX3_setPrice_0 : decode cX3_setPrice 0 = .ok (.iload_n 1, 1) := by decide +kernel
theorem dX3_setPrice_1 : decode cX3_setPrice 1 = .ok (.invokestatic 44, 3) := by decide +kernel
theorem dX3_setPrice_4 : decode cX3_setPrice 4 = .ok (.iload_n 2, 1) := by decide +kernel
theorem dX3_setPrice_5 : decode cX3_setPrice 5 = .ok (.iconst 0, 1) := by decide +kernel
theorem dX3_setPrice_6 : decode cX3_setPrice 6 = .ok (.sipush 1000, 3) := by decide +kernel
theorem dX3_setPrice_9 : decode cX3_setPrice 9 = .ok (.invokestatic 30, 3) := by decide +kernel
theorem dX3_setPrice_12 : decode cX3_setPrice 12 = .ok (.aload_n 0, 1) := by decide +kernel
theorem dX3_setPrice_13 : decode cX3_setPrice 13 = .ok (.getfield 12, 3) := by decide +kernel
theorem dX3_setPrice_16 : decode cX3_setPrice 16 = .ok (.iload_n 1, 1) := by decide +kernel
theorem dX3_setPrice_17 : decode cX3_setPrice 17 = .ok (.iload_n 2, 1) := by decide +kernel
theorem dX3_setPrice_18 : decode cX3_setPrice 18 = .ok (.invokevirtual 47, 3) := by decide +kernel
theorem dX3_setPrice_21 : decode cX3_setPrice 21 = .ok (.ifCond .ne 13, 3) := by decide +kernel
theorem dX3_setPrice_24 : decode cX3_setPrice 24 = .ok (.new 51, 3) := by decide +kernel
theorem dX3_setPrice_27 : decode cX3_setPrice 27 = .ok (.dup, 1) := by decide +kernel
theorem dX3_setPrice_28 : decode cX3_setPrice 28 = .ok (.ldc 53, 2) := by decide +kernel
theorem dX3_setPrice_30 : decode cX3_setPrice 30 = .ok (.invokespecial 55, 3) := by decide +kernel
theorem dX3_setPrice_33 : decode cX3_setPrice 33 = .ok (.athrow, 1) := by decide +kernel
theorem dX3_setPrice_34 : decode cX3_setPrice 34 = .ok (.aload_n 0, 1) := by decide +kernel
theorem dX3_setPrice_35 : decode cX3_setPrice 35 = .ok (.getfield 12, 3) := by decide +kernel
theorem dX3_setPrice_38 : decode cX3_setPrice 38 = .ok (.getfield 58, 3) := by decide +kernel
theorem dX3_setPrice_41 : decode cX3_setPrice 41 = .ok (.iload_n 1, 1) := by decide +kernel
theorem dX3_setPrice_42 : decode cX3_setPrice 42 = .ok (.iaload, 1) := by decide +kernel
theorem dX3_setPrice_43 : decode cX3_setPrice 43 = .ok (.istore_n 3, 1) := by decide +kernel
theorem dX3_setPrice_44 : decode cX3_setPrice 44 = .ok (.aload_n 0, 1) := by decide +kernel
theorem dX3_setPrice_45 : decode cX3_setPrice 45 = .ok (.getfield 12, 3) := by decide +kernel
theorem dX3_setPrice_48 : decode cX3_setPrice 48 = .ok (.getfield 58, 3) := by decide +kernel
theorem dX3_setPrice_51 : decode cX3_setPrice 51 = .ok (.iload_n 1, 1) := by decide +kernel
theorem dX3_setPrice_52 : decode cX3_setPrice 52 = .ok (.iload_n 2, 1) := by decide +kernel
theorem dX3_setPrice_53 : decode cX3_setPrice 53 = .ok (.iastore, 1) := by decide +kernel
theorem dX3_setPrice_54 : decode cX3_setPrice 54 = .ok (.iload_n 3, 1) := by decide +kernel
theorem dX3_setPrice_55 : decode cX3_setPrice 55 = .ok (.ireturn, 1) := by decide +kernel
theorem dX3_setDemand_0 : decode cX3_setDemand 0 = .ok (.aload_n 0, 1) := by decide +kernel
theorem dX3_setDemand_1 : decode cX3_setDemand 1 = .ok (.iload_n 1, 1) := by decide +kernel
theorem dX3_setDemand_2 : decode cX3_setDemand 2 = .ok (.invokevirtual 62, 3) := by decide +kernel
theorem dX3_setDemand_5 : decode cX3_setDemand 5 = .ok (.astore 4, 2) := by decide +kernel
theorem dX3_setDemand_7 : decode cX3_setDemand 7 = .ok (.iload_n 2, 1) := by decide +kernel
theorem dX3_setDemand_8 : decode cX3_setDemand 8 = .ok (.invokestatic 44, 3) := by decide +kernel
theorem dX3_setDemand_11 : decode cX3_setDemand 11 = .ok (.iload_n 3, 1) := by decide +kernel
theorem dX3_setDemand_12 : decode cX3_setDemand 12 = .ok (.iconst 0, 1) := by decide +kernel
theorem dX3_setDemand_13 : decode cX3_setDemand 13 = .ok (.bipush 30, 2) := by decide +kernel
theorem dX3_setDemand_15 : decode cX3_setDemand 15 = .ok (.invokestatic 30, 3) := by decide +kernel
theorem dX3_setDemand_18 : decode cX3_setDemand 18 = .ok (.aload 4, 2) := by decide +kernel
theorem dX3_setDemand_20 : decode cX3_setDemand 20 = .ok (.getfield 66, 3) := by decide +kernel
theorem dX3_setDemand_23 : decode cX3_setDemand 23 = .ok (.iload_n 2, 1) := by decide +kernel
theorem dX3_setDemand_24 : decode cX3_setDemand 24 = .ok (.iaload, 1) := by decide +kernel
theorem dX3_setDemand_25 : decode cX3_setDemand 25 = .ok (.istore 5, 2) := by decide +kernel
theorem dX3_setDemand_27 : decode cX3_setDemand 27 = .ok (.aload 4, 2) := by decide +kernel
theorem dX3_setDemand_29 : decode cX3_setDemand 29 = .ok (.getfield 66, 3) := by decide +kernel
theorem dX3_setDemand_32 : decode cX3_setDemand 32 = .ok (.iload_n 2, 1) := by decide +kernel
theorem dX3_setDemand_33 : decode cX3_setDemand 33 = .ok (.iload_n 3, 1) := by decide +kernel
theorem dX3_setDemand_34 : decode cX3_setDemand 34 = .ok (.iastore, 1) := by decide +kernel
theorem dX3_setDemand_35 : decode cX3_setDemand 35 = .ok (.iload 5, 2) := by decide +kernel
theorem dX3_setDemand_37 : decode cX3_setDemand 37 = .ok (.ireturn, 1) := by decide +kernel
theorem dX3_setRules_0 : decode cX3_setRules 0 = .ok (.iload_n 1, 1) := by decide +kernel
theorem dX3_setRules_1 : decode cX3_setRules 1 = .ok (.iconst 1, 1) := by decide +kernel
theorem dX3_setRules_2 : decode cX3_setRules 2 = .ok (.iconst 4, 1) := by decide +kernel
theorem dX3_setRules_3 : decode cX3_setRules 3 = .ok (.invokestatic 30, 3) := by decide +kernel
theorem dX3_setRules_6 : decode cX3_setRules 6 = .ok (.iload_n 2, 1) := by decide +kernel
theorem dX3_setRules_7 : decode cX3_setRules 7 = .ok (.iconst 0, 1) := by decide +kernel
theorem dX3_setRules_8 : decode cX3_setRules 8 = .ok (.sipush 1000, 3) := by decide +kernel
theorem dX3_setRules_11 : decode cX3_setRules 11 = .ok (.invokestatic 30, 3) := by decide +kernel
theorem dX3_setRules_14 : decode cX3_setRules 14 = .ok (.iload_n 3, 1) := by decide +kernel
theorem dX3_setRules_15 : decode cX3_setRules 15 = .ok (.iconst 0, 1) := by decide +kernel
theorem dX3_setRules_16 : decode cX3_setRules 16 = .ok (.bipush 100, 2) := by decide +kernel
theorem dX3_setRules_18 : decode cX3_setRules 18 = .ok (.invokestatic 30, 3) := by decide +kernel
theorem dX3_setRules_21 : decode cX3_setRules 21 = .ok (.aload_n 0, 1) := by decide +kernel
theorem dX3_setRules_22 : decode cX3_setRules 22 = .ok (.getfield 12, 3) := by decide +kernel
theorem dX3_setRules_25 : decode cX3_setRules 25 = .ok (.iload_n 1, 1) := by decide +kernel
theorem dX3_setRules_26 : decode cX3_setRules 26 = .ok (.putfield 69, 3) := by decide +kernel
theorem dX3_setRules_29 : decode cX3_setRules 29 = .ok (.aload_n 0, 1) := by decide +kernel
theorem dX3_setRules_30 : decode cX3_setRules 30 = .ok (.getfield 12, 3) := by decide +kernel
theorem dX3_setRules_33 : decode cX3_setRules 33 = .ok (.iload_n 2, 1) := by decide +kernel
theorem dX3_setRules_34 : decode cX3_setRules 34 = .ok (.putfield 72, 3) := by decide +kernel
theorem dX3_setRules_37 : decode cX3_setRules 37 = .ok (.aload_n 0, 1) := by decide +kernel
theorem dX3_setRules_38 : decode cX3_setRules 38 = .ok (.getfield 12, 3) := by decide +kernel
theorem dX3_setRules_41 : decode cX3_setRules 41 = .ok (.iload_n 3, 1) := by decide +kernel
theorem dX3_setRules_42 : decode cX3_setRules 42 = .ok (.putfield 75, 3) := by decide +kernel
theorem dX3_setRules_45 : decode cX3_setRules 45 = .ok (.return_, 1) := by decide +kernel
theorem dX3_put_0 : decode cX3_put 0 = .ok (.aload_n 0, 1) := by decide +kernel
theorem dX3_put_1 : decode cX3_put 1 = .ok (.iload_n 1, 1) := by decide +kernel
theorem dX3_put_2 : decode cX3_put 2 = .ok (.invokevirtual 62, 3) := by decide +kernel
theorem dX3_put_5 : decode cX3_put 5 = .ok (.astore 4, 2) := by decide +kernel
theorem dX3_put_7 : decode cX3_put 7 = .ok (.iload_n 2, 1) := by decide +kernel
theorem dX3_put_8 : decode cX3_put 8 = .ok (.invokestatic 78, 3) := by decide +kernel
theorem dX3_put_11 : decode cX3_put 11 = .ok (.iload_n 3, 1) := by decide +kernel
theorem dX3_put_12 : decode cX3_put 12 = .ok (.iconst 1, 1) := by decide +kernel
theorem dX3_put_13 : decode cX3_put 13 = .ok (.bipush 40, 2) := by decide +kernel
theorem dX3_put_15 : decode cX3_put 15 = .ok (.invokestatic 30, 3) := by decide +kernel
theorem dX3_put_18 : decode cX3_put 18 = .ok (.aload 4, 2) := by decide +kernel
theorem dX3_put_20 : decode cX3_put 20 = .ok (.iload_n 3, 1) := by decide +kernel
theorem dX3_put_21 : decode cX3_put 21 = .ok (.invokestatic 81, 3) := by decide +kernel
theorem dX3_put_24 : decode cX3_put 24 = .ok (.aload 4, 2) := by decide +kernel
theorem dX3_put_26 : decode cX3_put 26 = .ok (.getfield 85, 3) := by decide +kernel
theorem dX3_put_29 : decode cX3_put 29 = .ok (.iload_n 2, 1) := by decide +kernel
theorem dX3_put_30 : decode cX3_put 30 = .ok (.dup2, 1) := by decide +kernel
theorem dX3_put_31 : decode cX3_put 31 = .ok (.iaload, 1) := by decide +kernel
theorem dX3_put_32 : decode cX3_put 32 = .ok (.iload_n 3, 1) := by decide +kernel
theorem dX3_put_33 : decode cX3_put 33 = .ok (.iadd, 1) := by decide +kernel
theorem dX3_put_34 : decode cX3_put 34 = .ok (.iastore, 1) := by decide +kernel
theorem dX3_put_35 : decode cX3_put 35 = .ok (.aload 4, 2) := by decide +kernel
theorem dX3_put_37 : decode cX3_put 37 = .ok (.getfield 85, 3) := by decide +kernel
theorem dX3_put_40 : decode cX3_put 40 = .ok (.iload_n 2, 1) := by decide +kernel
theorem dX3_put_41 : decode cX3_put 41 = .ok (.iaload, 1) := by decide +kernel
theorem dX3_put_42 : decode cX3_put 42 = .ok (.ireturn, 1) := by decide +kernel
theorem dX3_markDown_0 : decode cX3_markDown 0 = .ok (.aload_n 0, 1) := by decide +kernel
theorem dX3_markDown_1 : decode cX3_markDown 1 = .ok (.iload_n 1, 1) := by decide +kernel
theorem dX3_markDown_2 : decode cX3_markDown 2 = .ok (.invokevirtual 62, 3) := by decide +kernel
theorem dX3_markDown_5 : decode cX3_markDown 5 = .ok (.astore_n 3, 1) := by decide +kernel
theorem dX3_markDown_6 : decode cX3_markDown 6 = .ok (.iload_n 2, 1) := by decide +kernel
theorem dX3_markDown_7 : decode cX3_markDown 7 = .ok (.invokestatic 44, 3) := by decide +kernel
theorem dX3_markDown_10 : decode cX3_markDown 10 = .ok (.aload_n 0, 1) := by decide +kernel
theorem dX3_markDown_11 : decode cX3_markDown 11 = .ok (.invokevirtual 88, 3) := by decide +kernel
theorem dX3_markDown_14 : decode cX3_markDown 14 = .ok (.iload_n 2, 1) := by decide +kernel
theorem dX3_markDown_15 : decode cX3_markDown 15 = .ok (.aload_n 3, 1) := by decide +kernel
theorem dX3_markDown_16 : decode cX3_markDown 16 = .ok (.getfield 91, 3) := by decide +kernel
theorem dX3_markDown_19 : decode cX3_markDown 19 = .ok (.if_icmp .gt 13, 3) := by decide +kernel
theorem dX3_markDown_22 : decode cX3_markDown 22 = .ok (.new 51, 3) := by decide +kernel
theorem dX3_markDown_25 : decode cX3_markDown 25 = .ok (.dup, 1) := by decide +kernel
theorem dX3_markDown_26 : decode cX3_markDown 26 = .ok (.ldc 94, 2) := by decide +kernel
theorem dX3_markDown_28 : decode cX3_markDown 28 = .ok (.invokespecial 55, 3) := by decide +kernel
theorem dX3_markDown_31 : decode cX3_markDown 31 = .ok (.athrow, 1) := by decide +kernel
theorem dX3_markDown_32 : decode cX3_markDown 32 = .ok (.aload_n 3, 1) := by decide +kernel
theorem dX3_markDown_33 : decode cX3_markDown 33 = .ok (.aload_n 0, 1) := by decide +kernel
theorem dX3_markDown_34 : decode cX3_markDown 34 = .ok (.getfield 12, 3) := by decide +kernel
theorem dX3_markDown_37 : decode cX3_markDown 37 = .ok (.getfield 34, 3) := by decide +kernel
theorem dX3_markDown_40 : decode cX3_markDown 40 = .ok (.aload_n 0, 1) := by decide +kernel
theorem dX3_markDown_41 : decode cX3_markDown 41 = .ok (.getfield 12, 3) := by decide +kernel
theorem dX3_markDown_44 : decode cX3_markDown 44 = .ok (.getfield 69, 3) := by decide +kernel
theorem dX3_markDown_47 : decode cX3_markDown 47 = .ok (.invokevirtual 96, 3) := by decide +kernel
theorem dX3_markDown_50 : decode cX3_markDown 50 = .ok (.ifCond .le 13, 3) := by decide +kernel
theorem dX3_markDown_53 : decode cX3_markDown 53 = .ok (.new 51, 3) := by decide +kernel
theorem dX3_markDown_56 : decode cX3_markDown 56 = .ok (.dup, 1) := by decide +kernel
theorem dX3_markDown_57 : decode cX3_markDown 57 = .ok (.ldc 100, 2) := by decide +kernel
theorem dX3_markDown_59 : decode cX3_markDown 59 = .ok (.invokespecial 55, 3) := by decide +kernel
theorem dX3_markDown_62 : decode cX3_markDown 62 = .ok (.athrow, 1) := by decide +kernel
theorem dX3_markDown_63 : decode cX3_markDown 63 = .ok (.aload_n 3, 1) := by decide +kernel
theorem dX3_markDown_64 : decode cX3_markDown 64 = .ok (.iload_n 2, 1) := by decide +kernel
theorem dX3_markDown_65 : decode cX3_markDown 65 = .ok (.putfield 91, 3) := by decide +kernel
theorem dX3_markDown_68 : decode cX3_markDown 68 = .ok (.aload_n 3, 1) := by decide +kernel
theorem dX3_markDown_69 : decode cX3_markDown 69 = .ok (.aload_n 0, 1) := by decide +kernel
theorem dX3_markDown_70 : decode cX3_markDown 70 = .ok (.getfield 12, 3) := by decide +kernel
theorem dX3_markDown_73 : decode cX3_markDown 73 = .ok (.getfield 34, 3) := by decide +kernel
theorem dX3_markDown_76 : decode cX3_markDown 76 = .ok (.putfield 102, 3) := by decide +kernel
theorem dX3_markDown_79 : decode cX3_markDown 79 = .ok (.aload_n 0, 1) := by decide +kernel
theorem dX3_markDown_80 : decode cX3_markDown 80 = .ok (.getfield 12, 3) := by decide +kernel
theorem dX3_markDown_83 : decode cX3_markDown 83 = .ok (.getfield 58, 3) := by decide +kernel
theorem dX3_markDown_86 : decode cX3_markDown 86 = .ok (.iload_n 2, 1) := by decide +kernel
theorem dX3_markDown_87 : decode cX3_markDown 87 = .ok (.iaload, 1) := by decide +kernel
theorem dX3_markDown_88 : decode cX3_markDown 88 = .ok (.ireturn, 1) := by decide +kernel
theorem dX3_move_0 : decode cX3_move 0 = .ok (.aload_n 0, 1) := by decide +kernel
theorem dX3_move_1 : decode cX3_move 1 = .ok (.iload_n 1, 1) := by decide +kernel
theorem dX3_move_2 : decode cX3_move 2 = .ok (.invokevirtual 62, 3) := by decide +kernel
theorem dX3_move_5 : decode cX3_move 5 = .ok (.astore 5, 2) := by decide +kernel
theorem dX3_move_7 : decode cX3_move 7 = .ok (.aload_n 0, 1) := by decide +kernel
theorem dX3_move_8 : decode cX3_move 8 = .ok (.iload_n 2, 1) := by decide +kernel
theorem dX3_move_9 : decode cX3_move 9 = .ok (.invokevirtual 62, 3) := by decide +kernel
theorem dX3_move_12 : decode cX3_move 12 = .ok (.astore 6, 2) := by decide +kernel
theorem dX3_move_14 : decode cX3_move 14 = .ok (.iload_n 3, 1) := by decide +kernel
theorem dX3_move_15 : decode cX3_move 15 = .ok (.invokestatic 78, 3) := by decide +kernel
theorem dX3_move_18 : decode cX3_move 18 = .ok (.iload 4, 2) := by decide +kernel
theorem dX3_move_20 : decode cX3_move 20 = .ok (.iconst 1, 1) := by decide +kernel
theorem dX3_move_21 : decode cX3_move 21 = .ok (.bipush 40, 2) := by decide +kernel
theorem dX3_move_23 : decode cX3_move 23 = .ok (.invokestatic 30, 3) := by decide +kernel
theorem dX3_move_26 : decode cX3_move 26 = .ok (.iload_n 1, 1) := by decide +kernel
theorem dX3_move_27 : decode cX3_move 27 = .ok (.iload_n 2, 1) := by decide +kernel
theorem dX3_move_28 : decode cX3_move 28 = .ok (.if_icmp .ne 13, 3) := by decide +kernel
theorem dX3_move_31 : decode cX3_move 31 = .ok (.new 105, 3) := by decide +kernel
theorem dX3_move_34 : decode cX3_move 34 = .ok (.dup, 1) := by decide +kernel
theorem dX3_move_35 : decode cX3_move 35 = .ok (.ldc 107, 2) := by decide +kernel
theorem dX3_move_37 : decode cX3_move 37 = .ok (.invokespecial 109, 3) := by decide +kernel
theorem dX3_move_40 : decode cX3_move 40 = .ok (.athrow, 1) := by decide +kernel
theorem dX3_move_41 : decode cX3_move 41 = .ok (.aload_n 0, 1) := by decide +kernel
theorem dX3_move_42 : decode cX3_move 42 = .ok (.invokevirtual 88, 3) := by decide +kernel
theorem dX3_move_45 : decode cX3_move 45 = .ok (.aload 5, 2) := by decide +kernel
theorem dX3_move_47 : decode cX3_move 47 = .ok (.getfield 85, 3) := by decide +kernel
theorem dX3_move_50 : decode cX3_move 50 = .ok (.iload_n 3, 1) := by decide +kernel
theorem dX3_move_51 : decode cX3_move 51 = .ok (.iaload, 1) := by decide +kernel
theorem dX3_move_52 : decode cX3_move 52 = .ok (.iload 4, 2) := by decide +kernel
theorem dX3_move_54 : decode cX3_move 54 = .ok (.if_icmp .ge 13, 3) := by decide +kernel
theorem dX3_move_57 : decode cX3_move 57 = .ok (.new 51, 3) := by decide +kernel
theorem dX3_move_60 : decode cX3_move 60 = .ok (.dup, 1) := by decide +kernel
theorem dX3_move_61 : decode cX3_move 61 = .ok (.ldc 110, 2) := by decide +kernel
theorem dX3_move_63 : decode cX3_move 63 = .ok (.invokespecial 55, 3) := by decide +kernel
theorem dX3_move_66 : decode cX3_move 66 = .ok (.athrow, 1) := by decide +kernel
theorem dX3_move_67 : decode cX3_move 67 = .ok (.aload 6, 2) := by decide +kernel
theorem dX3_move_69 : decode cX3_move 69 = .ok (.iload 4, 2) := by decide +kernel
theorem dX3_move_71 : decode cX3_move 71 = .ok (.invokestatic 81, 3) := by decide +kernel
theorem dX3_move_74 : decode cX3_move 74 = .ok (.aload 5, 2) := by decide +kernel
theorem dX3_move_76 : decode cX3_move 76 = .ok (.getfield 85, 3) := by decide +kernel
theorem dX3_move_79 : decode cX3_move 79 = .ok (.iload_n 3, 1) := by decide +kernel
theorem dX3_move_80 : decode cX3_move 80 = .ok (.dup2, 1) := by decide +kernel
theorem dX3_move_81 : decode cX3_move 81 = .ok (.iaload, 1) := by decide +kernel
theorem dX3_move_82 : decode cX3_move 82 = .ok (.iload 4, 2) := by decide +kernel
theorem dX3_move_84 : decode cX3_move 84 = .ok (.isub, 1) := by decide +kernel
theorem dX3_move_85 : decode cX3_move 85 = .ok (.iastore, 1) := by decide +kernel
theorem dX3_move_86 : decode cX3_move 86 = .ok (.aload 6, 2) := by decide +kernel
theorem dX3_move_88 : decode cX3_move 88 = .ok (.getfield 85, 3) := by decide +kernel
theorem dX3_move_91 : decode cX3_move 91 = .ok (.iload_n 3, 1) := by decide +kernel
theorem dX3_move_92 : decode cX3_move 92 = .ok (.dup2, 1) := by decide +kernel
theorem dX3_move_93 : decode cX3_move 93 = .ok (.iaload, 1) := by decide +kernel
theorem dX3_move_94 : decode cX3_move 94 = .ok (.iload 4, 2) := by decide +kernel
theorem dX3_move_96 : decode cX3_move 96 = .ok (.iadd, 1) := by decide +kernel
theorem dX3_move_97 : decode cX3_move 97 = .ok (.iastore, 1) := by decide +kernel
theorem dX3_move_98 : decode cX3_move 98 = .ok (.iload 4, 2) := by decide +kernel
theorem dX3_move_100 : decode cX3_move 100 = .ok (.aload_n 0, 1) := by decide +kernel
theorem dX3_move_101 : decode cX3_move 101 = .ok (.getfield 12, 3) := by decide +kernel
theorem dX3_move_104 : decode cX3_move 104 = .ok (.getfield 75, 3) := by decide +kernel
theorem dX3_move_107 : decode cX3_move 107 = .ok (.imul, 1) := by decide +kernel
theorem dX3_move_108 : decode cX3_move 108 = .ok (.istore 7, 2) := by decide +kernel
theorem dX3_move_110 : decode cX3_move 110 = .ok (.aload_n 0, 1) := by decide +kernel
theorem dX3_move_111 : decode cX3_move 111 = .ok (.getfield 12, 3) := by decide +kernel
theorem dX3_move_114 : decode cX3_move 114 = .ok (.dup, 1) := by decide +kernel
theorem dX3_move_115 : decode cX3_move 115 = .ok (.getfield 112, 3) := by decide +kernel
theorem dX3_move_118 : decode cX3_move 118 = .ok (.iload 7, 2) := by decide +kernel
theorem dX3_move_120 : decode cX3_move 120 = .ok (.isub, 1) := by decide +kernel
theorem dX3_move_121 : decode cX3_move 121 = .ok (.putfield 112, 3) := by decide +kernel
theorem dX3_move_124 : decode cX3_move 124 = .ok (.iload 7, 2) := by decide +kernel
theorem dX3_move_126 : decode cX3_move 126 = .ok (.ireturn, 1) := by decide +kernel
theorem dX3_run_0 : decode cX3_run 0 = .ok (.aload_n 0, 1) := by decide +kernel
theorem dX3_run_1 : decode cX3_run 1 = .ok (.invokevirtual 88, 3) := by decide +kernel
theorem dX3_run_4 : decode cX3_run 4 = .ok (.iconst 0, 1) := by decide +kernel
theorem dX3_run_5 : decode cX3_run 5 = .ok (.istore_n 1, 1) := by decide +kernel
theorem dX3_run_6 : decode cX3_run 6 = .ok (.aload_n 0, 1) := by decide +kernel
theorem dX3_run_7 : decode cX3_run 7 = .ok (.getfield 18, 3) := by decide +kernel
theorem dX3_run_10 : decode cX3_run 10 = .ok (.astore_n 2, 1) := by decide +kernel
theorem dX3_run_11 : decode cX3_run 11 = .ok (.aload_n 2, 1) := by decide +kernel
theorem dX3_run_12 : decode cX3_run 12 = .ok (.arraylength, 1) := by decide +kernel
theorem dX3_run_13 : decode cX3_run 13 = .ok (.istore_n 3, 1) := by decide +kernel
theorem dX3_run_14 : decode cX3_run 14 = .ok (.iconst 0, 1) := by decide +kernel
theorem dX3_run_15 : decode cX3_run 15 = .ok (.istore 4, 2) := by decide +kernel
theorem dX3_run_17 : decode cX3_run 17 = .ok (.iload 4, 2) := by decide +kernel
theorem dX3_run_19 : decode cX3_run 19 = .ok (.iload_n 3, 1) := by decide +kernel
theorem dX3_run_20 : decode cX3_run 20 = .ok (.if_icmp .ge 37, 3) := by decide +kernel
theorem dX3_run_23 : decode cX3_run 23 = .ok (.aload_n 2, 1) := by decide +kernel
theorem dX3_run_24 : decode cX3_run 24 = .ok (.iload 4, 2) := by decide +kernel
theorem dX3_run_26 : decode cX3_run 26 = .ok (.aaload, 1) := by decide +kernel
theorem dX3_run_27 : decode cX3_run 27 = .ok (.astore 5, 2) := by decide +kernel
theorem dX3_run_29 : decode cX3_run 29 = .ok (.iload_n 1, 1) := by decide +kernel
theorem dX3_run_30 : decode cX3_run 30 = .ok (.aload 5, 2) := by decide +kernel
theorem dX3_run_32 : decode cX3_run 32 = .ok (.invokevirtual 115, 3) := by decide +kernel
theorem dX3_run_35 : decode cX3_run 35 = .ok (.aload_n 0, 1) := by decide +kernel
theorem dX3_run_36 : decode cX3_run 36 = .ok (.getfield 12, 3) := by decide +kernel
theorem dX3_run_39 : decode cX3_run 39 = .ok (.getfield 58, 3) := by decide +kernel
theorem dX3_run_42 : decode cX3_run 42 = .ok (.aload 5, 2) := by decide +kernel
theorem dX3_run_44 : decode cX3_run 44 = .ok (.getfield 91, 3) := by decide +kernel
theorem dX3_run_47 : decode cX3_run 47 = .ok (.iaload, 1) := by decide +kernel
theorem dX3_run_48 : decode cX3_run 48 = .ok (.imul, 1) := by decide +kernel
theorem dX3_run_49 : decode cX3_run 49 = .ok (.iadd, 1) := by decide +kernel
theorem dX3_run_50 : decode cX3_run 50 = .ok (.istore_n 1, 1) := by decide +kernel
theorem dX3_run_51 : decode cX3_run 51 = .ok (.iinc 4 1, 3) := by decide +kernel
theorem dX3_run_54 : decode cX3_run 54 = .ok (.goto (-37), 3) := by decide +kernel
theorem dX3_run_57 : decode cX3_run 57 = .ok (.aload_n 0, 1) := by decide +kernel
theorem dX3_run_58 : decode cX3_run 58 = .ok (.getfield 12, 3) := by decide +kernel
theorem dX3_run_61 : decode cX3_run 61 = .ok (.dup, 1) := by decide +kernel
theorem dX3_run_62 : decode cX3_run 62 = .ok (.getfield 112, 3) := by decide +kernel
theorem dX3_run_65 : decode cX3_run 65 = .ok (.iload_n 1, 1) := by decide +kernel
theorem dX3_run_66 : decode cX3_run 66 = .ok (.iadd, 1) := by decide +kernel
theorem dX3_run_67 : decode cX3_run 67 = .ok (.putfield 112, 3) := by decide +kernel
theorem dX3_run_70 : decode cX3_run 70 = .ok (.aload_n 0, 1) := by decide +kernel
theorem dX3_run_71 : decode cX3_run 71 = .ok (.getfield 12, 3) := by decide +kernel
theorem dX3_run_74 : decode cX3_run 74 = .ok (.dup, 1) := by decide +kernel
theorem dX3_run_75 : decode cX3_run 75 = .ok (.getfield 34, 3) := by decide +kernel
theorem dX3_run_78 : decode cX3_run 78 = .ok (.iconst 1, 1) := by decide +kernel
theorem dX3_run_79 : decode cX3_run 79 = .ok (.iadd, 1) := by decide +kernel
theorem dX3_run_80 : decode cX3_run 80 = .ok (.putfield 34, 3) := by decide +kernel
theorem dX3_run_83 : decode cX3_run 83 = .ok (.iload_n 1, 1) := by decide +kernel
theorem dX3_run_84 : decode cX3_run 84 = .ok (.ireturn, 1) := by decide +kernel
theorem dX3_week_0 : decode cX3_week 0 = .ok (.aload_n 0, 1) := by decide +kernel
theorem dX3_week_1 : decode cX3_week 1 = .ok (.getfield 12, 3) := by decide +kernel
theorem dX3_week_4 : decode cX3_week 4 = .ok (.getfield 34, 3) := by decide +kernel
theorem dX3_week_7 : decode cX3_week 7 = .ok (.ireturn, 1) := by decide +kernel
theorem dX3_stock_0 : decode cX3_stock 0 = .ok (.aload_n 0, 1) := by decide +kernel
theorem dX3_stock_1 : decode cX3_stock 1 = .ok (.iload_n 1, 1) := by decide +kernel
theorem dX3_stock_2 : decode cX3_stock 2 = .ok (.invokevirtual 62, 3) := by decide +kernel
theorem dX3_stock_5 : decode cX3_stock 5 = .ok (.astore_n 3, 1) := by decide +kernel
theorem dX3_stock_6 : decode cX3_stock 6 = .ok (.iload_n 2, 1) := by decide +kernel
theorem dX3_stock_7 : decode cX3_stock 7 = .ok (.invokestatic 78, 3) := by decide +kernel
theorem dX3_stock_10 : decode cX3_stock 10 = .ok (.aload_n 3, 1) := by decide +kernel
theorem dX3_stock_11 : decode cX3_stock 11 = .ok (.getfield 85, 3) := by decide +kernel
theorem dX3_stock_14 : decode cX3_stock 14 = .ok (.iload_n 2, 1) := by decide +kernel
theorem dX3_stock_15 : decode cX3_stock 15 = .ok (.iaload, 1) := by decide +kernel
theorem dX3_stock_16 : decode cX3_stock 16 = .ok (.ireturn, 1) := by decide +kernel
theorem dX3_step_0 : decode cX3_step 0 = .ok (.aload_n 0, 1) := by decide +kernel
theorem dX3_step_1 : decode cX3_step 1 = .ok (.iload_n 1, 1) := by decide +kernel
theorem dX3_step_2 : decode cX3_step 2 = .ok (.invokevirtual 62, 3) := by decide +kernel
theorem dX3_step_5 : decode cX3_step 5 = .ok (.getfield 91, 3) := by decide +kernel
theorem dX3_step_8 : decode cX3_step 8 = .ok (.ireturn, 1) := by decide +kernel
theorem dX3_weeksToWait_0 : decode cX3_weeksToWait 0 = .ok (.aload_n 0, 1) := by decide +kernel
theorem dX3_weeksToWait_1 : decode cX3_weeksToWait 1 = .ok (.iload_n 1, 1) := by decide +kernel
theorem dX3_weeksToWait_2 : decode cX3_weeksToWait 2 = .ok (.invokevirtual 62, 3) := by decide +kernel
theorem dX3_weeksToWait_5 : decode cX3_weeksToWait 5 = .ok (.aload_n 0, 1) := by decide +kernel
theorem dX3_weeksToWait_6 : decode cX3_weeksToWait 6 = .ok (.getfield 12, 3) := by decide +kernel
theorem dX3_weeksToWait_9 : decode cX3_weeksToWait 9 = .ok (.getfield 34, 3) := by decide +kernel
theorem dX3_weeksToWait_12 : decode cX3_weeksToWait 12 = .ok (.aload_n 0, 1) := by decide +kernel
theorem dX3_weeksToWait_13 : decode cX3_weeksToWait 13 = .ok (.getfield 12, 3) := by decide +kernel
theorem dX3_weeksToWait_16 : decode cX3_weeksToWait 16 = .ok (.getfield 69, 3) := by decide +kernel
theorem dX3_weeksToWait_19 : decode cX3_weeksToWait 19 = .ok (.invokevirtual 96, 3) := by decide +kernel
theorem dX3_weeksToWait_22 : decode cX3_weeksToWait 22 = .ok (.ireturn, 1) := by decide +kernel
theorem dX3_sold_0 : decode cX3_sold 0 = .ok (.aload_n 0, 1) := by decide +kernel
theorem dX3_sold_1 : decode cX3_sold 1 = .ok (.iload_n 1, 1) := by decide +kernel
theorem dX3_sold_2 : decode cX3_sold 2 = .ok (.invokevirtual 62, 3) := by decide +kernel
theorem dX3_sold_5 : decode cX3_sold 5 = .ok (.getfield 119, 3) := by decide +kernel
theorem dX3_sold_8 : decode cX3_sold 8 = .ok (.ireturn, 1) := by decide +kernel
theorem dX3_taken_0 : decode cX3_taken 0 = .ok (.aload_n 0, 1) := by decide +kernel
theorem dX3_taken_1 : decode cX3_taken 1 = .ok (.getfield 12, 3) := by decide +kernel
theorem dX3_taken_4 : decode cX3_taken 4 = .ok (.getfield 112, 3) := by decide +kernel
theorem dX3_taken_7 : decode cX3_taken 7 = .ok (.ireturn, 1) := by decide +kernel
theorem dX3_wouldSell_0 : decode cX3_wouldSell 0 = .ok (.aload_n 0, 1) := by decide +kernel
theorem dX3_wouldSell_1 : decode cX3_wouldSell 1 = .ok (.iload_n 1, 1) := by decide +kernel
theorem dX3_wouldSell_2 : decode cX3_wouldSell 2 = .ok (.invokevirtual 62, 3) := by decide +kernel
theorem dX3_wouldSell_5 : decode cX3_wouldSell 5 = .ok (.astore_n 3, 1) := by decide +kernel
theorem dX3_wouldSell_6 : decode cX3_wouldSell 6 = .ok (.iload_n 2, 1) := by decide +kernel
theorem dX3_wouldSell_7 : decode cX3_wouldSell 7 = .ok (.invokestatic 44, 3) := by decide +kernel
theorem dX3_wouldSell_10 : decode cX3_wouldSell 10 = .ok (.aload_n 3, 1) := by decide +kernel
theorem dX3_wouldSell_11 : decode cX3_wouldSell 11 = .ok (.iload_n 2, 1) := by decide +kernel
theorem dX3_wouldSell_12 : decode cX3_wouldSell 12 = .ok (.invokevirtual 122, 3) := by decide +kernel
theorem dX3_wouldSell_15 : decode cX3_wouldSell 15 = .ok (.ireturn, 1) := by decide +kernel
theorem dX3_best_0 : decode cX3_best 0 = .ok (.aload_n 0, 1) := by decide +kernel
theorem dX3_best_1 : decode cX3_best 1 = .ok (.getfield 25, 3) := by decide +kernel
theorem dX3_best_4 : decode cX3_best 4 = .ok (.aload_n 0, 1) := by decide +kernel
theorem dX3_best_5 : decode cX3_best 5 = .ok (.getfield 12, 3) := by decide +kernel
theorem dX3_best_8 : decode cX3_best 8 = .ok (.aload_n 0, 1) := by decide +kernel
theorem dX3_best_9 : decode cX3_best 9 = .ok (.iload_n 1, 1) := by decide +kernel
theorem dX3_best_10 : decode cX3_best 10 = .ok (.invokevirtual 62, 3) := by decide +kernel
theorem dX3_best_13 : decode cX3_best 13 = .ok (.invokevirtual 126, 3) := by decide +kernel
theorem dX3_best_16 : decode cX3_best 16 = .ok (.aload_n 0, 1) := by decide +kernel
theorem dX3_best_17 : decode cX3_best 17 = .ok (.getfield 25, 3) := by decide +kernel
theorem dX3_best_20 : decode cX3_best 20 = .ok (.bipush 60, 2) := by decide +kernel
theorem dX3_best_22 : decode cX3_best 22 = .ok (.invokevirtual 130, 3) := by decide +kernel
theorem dX3_best_25 : decode cX3_best 25 = .ok (.ireturn, 1) := by decide +kernel
theorem dX3_bestByAll_0 : decode cX3_bestByAll 0 = .ok (.aload_n 0, 1) := by decide +kernel
theorem dX3_bestByAll_1 : decode cX3_bestByAll 1 = .ok (.iload_n 1, 1) := by decide +kernel
theorem dX3_bestByAll_2 : decode cX3_bestByAll 2 = .ok (.invokevirtual 62, 3) := by decide +kernel
theorem dX3_bestByAll_5 : decode cX3_bestByAll 5 = .ok (.astore_n 2, 1) := by decide +kernel
theorem dX3_bestByAll_6 : decode cX3_bestByAll 6 = .ok (.aload_n 0, 1) := by decide +kernel
theorem dX3_bestByAll_7 : decode cX3_bestByAll 7 = .ok (.getfield 12, 3) := by decide +kernel
theorem dX3_bestByAll_10 : decode cX3_bestByAll 10 = .ok (.getfield 133, 3) := by decide +kernel
theorem dX3_bestByAll_13 : decode cX3_bestByAll 13 = .ok (.aload_n 0, 1) := by decide +kernel
theorem dX3_bestByAll_14 : decode cX3_bestByAll 14 = .ok (.getfield 12, 3) := by decide +kernel
theorem dX3_bestByAll_17 : decode cX3_bestByAll 17 = .ok (.getfield 34, 3) := by decide +kernel
theorem dX3_bestByAll_20 : decode cX3_bestByAll 20 = .ok (.isub, 1) := by decide +kernel
theorem dX3_bestByAll_21 : decode cX3_bestByAll 21 = .ok (.bipush 6, 2) := by decide +kernel
theorem dX3_bestByAll_23 : decode cX3_bestByAll 23 = .ok (.if_icmp .le 13, 3) := by decide +kernel
theorem dX3_bestByAll_26 : decode cX3_bestByAll 26 = .ok (.new 51, 3) := by decide +kernel
theorem dX3_bestByAll_29 : decode cX3_bestByAll 29 = .ok (.dup, 1) := by decide +kernel
theorem dX3_bestByAll_30 : decode cX3_bestByAll 30 = .ok (.ldc 136, 2) := by decide +kernel
theorem dX3_bestByAll_32 : decode cX3_bestByAll 32 = .ok (.invokespecial 55, 3) := by decide +kernel
theorem dX3_bestByAll_35 : decode cX3_bestByAll 35 = .ok (.athrow, 1) := by decide +kernel
theorem dX3_bestByAll_36 : decode cX3_bestByAll 36 = .ok (.aload_n 0, 1) := by decide +kernel
theorem dX3_bestByAll_37 : decode cX3_bestByAll 37 = .ok (.getfield 25, 3) := by decide +kernel
theorem dX3_bestByAll_40 : decode cX3_bestByAll 40 = .ok (.aload_n 0, 1) := by decide +kernel
theorem dX3_bestByAll_41 : decode cX3_bestByAll 41 = .ok (.getfield 12, 3) := by decide +kernel
theorem dX3_bestByAll_44 : decode cX3_bestByAll 44 = .ok (.aload_n 2, 1) := by decide +kernel
theorem dX3_bestByAll_45 : decode cX3_bestByAll 45 = .ok (.invokevirtual 126, 3) := by decide +kernel
theorem dX3_bestByAll_48 : decode cX3_bestByAll 48 = .ok (.aload_n 0, 1) := by decide +kernel
theorem dX3_bestByAll_49 : decode cX3_bestByAll 49 = .ok (.getfield 25, 3) := by decide +kernel
theorem dX3_bestByAll_52 : decode cX3_bestByAll 52 = .ok (.invokevirtual 138, 3) := by decide +kernel
theorem dX3_bestByAll_55 : decode cX3_bestByAll 55 = .ok (.ireturn, 1) := by decide +kernel
theorem dX3_planned_0 : decode cX3_planned 0 = .ok (.aload_n 0, 1) := by decide +kernel
theorem dX3_planned_1 : decode cX3_planned 1 = .ok (.iload_n 1, 1) := by decide +kernel
theorem dX3_planned_2 : decode cX3_planned 2 = .ok (.invokevirtual 62, 3) := by decide +kernel
theorem dX3_planned_5 : decode cX3_planned 5 = .ok (.astore_n 3, 1) := by decide +kernel
theorem dX3_planned_6 : decode cX3_planned 6 = .ok (.iload_n 2, 1) := by decide +kernel
theorem dX3_planned_7 : decode cX3_planned 7 = .ok (.aload_n 0, 1) := by decide +kernel
theorem dX3_planned_8 : decode cX3_planned 8 = .ok (.getfield 12, 3) := by decide +kernel
theorem dX3_planned_11 : decode cX3_planned 11 = .ok (.getfield 34, 3) := by decide +kernel
theorem dX3_planned_14 : decode cX3_planned 14 = .ok (.aload_n 0, 1) := by decide +kernel
theorem dX3_planned_15 : decode cX3_planned 15 = .ok (.getfield 12, 3) := by decide +kernel
theorem dX3_planned_18 : decode cX3_planned 18 = .ok (.getfield 133, 3) := by decide +kernel
theorem dX3_planned_21 : decode cX3_planned 21 = .ok (.iconst 1, 1) := by decide +kernel
theorem dX3_planned_22 : decode cX3_planned 22 = .ok (.isub, 1) := by decide +kernel
theorem dX3_planned_23 : decode cX3_planned 23 = .ok (.invokestatic 30, 3) := by decide +kernel
theorem dX3_planned_26 : decode cX3_planned 26 = .ok (.aload_n 0, 1) := by decide +kernel
theorem dX3_planned_27 : decode cX3_planned 27 = .ok (.getfield 25, 3) := by decide +kernel
theorem dX3_planned_30 : decode cX3_planned 30 = .ok (.aload_n 0, 1) := by decide +kernel
theorem dX3_planned_31 : decode cX3_planned 31 = .ok (.getfield 12, 3) := by decide +kernel
theorem dX3_planned_34 : decode cX3_planned 34 = .ok (.aload_n 3, 1) := by decide +kernel
theorem dX3_planned_35 : decode cX3_planned 35 = .ok (.invokevirtual 126, 3) := by decide +kernel
theorem dX3_planned_38 : decode cX3_planned 38 = .ok (.aload_n 0, 1) := by decide +kernel
theorem dX3_planned_39 : decode cX3_planned 39 = .ok (.getfield 25, 3) := by decide +kernel
theorem dX3_planned_42 : decode cX3_planned 42 = .ok (.iload_n 2, 1) := by decide +kernel
theorem dX3_planned_43 : decode cX3_planned 43 = .ok (.invokevirtual 141, 3) := by decide +kernel
theorem dX3_planned_46 : decode cX3_planned 46 = .ok (.ireturn, 1) := by decide +kernel
theorem dX3_bestLeaving_0 : decode cX3_bestLeaving 0 = .ok (.aload_n 0, 1) := by decide +kernel
theorem dX3_bestLeaving_1 : decode cX3_bestLeaving 1 = .ok (.iload_n 1, 1) := by decide +kernel
theorem dX3_bestLeaving_2 : decode cX3_bestLeaving 2 = .ok (.invokevirtual 62, 3) := by decide +kernel
theorem dX3_bestLeaving_5 : decode cX3_bestLeaving 5 = .ok (.astore_n 3, 1) := by decide +kernel
theorem dX3_bestLeaving_6 : decode cX3_bestLeaving 6 = .ok (.iload_n 2, 1) := by decide +kernel
theorem dX3_bestLeaving_7 : decode cX3_bestLeaving 7 = .ok (.iconst 0, 1) := by decide +kernel
theorem dX3_bestLeaving_8 : decode cX3_bestLeaving 8 = .ok (.bipush 60, 2) := by decide +kernel
theorem dX3_bestLeaving_10 : decode cX3_bestLeaving 10 = .ok (.invokestatic 30, 3) := by decide +kernel
theorem dX3_bestLeaving_13 : decode cX3_bestLeaving 13 = .ok (.aload_n 0, 1) := by decide +kernel
theorem dX3_bestLeaving_14 : decode cX3_bestLeaving 14 = .ok (.getfield 25, 3) := by decide +kernel
theorem dX3_bestLeaving_17 : decode cX3_bestLeaving 17 = .ok (.aload_n 0, 1) := by decide +kernel
theorem dX3_bestLeaving_18 : decode cX3_bestLeaving 18 = .ok (.getfield 12, 3) := by decide +kernel
theorem dX3_bestLeaving_21 : decode cX3_bestLeaving 21 = .ok (.aload_n 3, 1) := by decide +kernel
theorem dX3_bestLeaving_22 : decode cX3_bestLeaving 22 = .ok (.invokevirtual 126, 3) := by decide +kernel
theorem dX3_bestLeaving_25 : decode cX3_bestLeaving 25 = .ok (.aload_n 0, 1) := by decide +kernel
theorem dX3_bestLeaving_26 : decode cX3_bestLeaving 26 = .ok (.getfield 25, 3) := by decide +kernel
theorem dX3_bestLeaving_29 : decode cX3_bestLeaving 29 = .ok (.iload_n 2, 1) := by decide +kernel
theorem dX3_bestLeaving_30 : decode cX3_bestLeaving 30 = .ok (.invokevirtual 130, 3) := by decide +kernel
theorem dX3_bestLeaving_33 : decode cX3_bestLeaving 33 = .ok (.ireturn, 1) := by decide +kernel
theorem dX3_requireWithin_0 : decode cX3_requireWithin 0 = .ok (.iload_n 0, 1) := by decide +kernel
theorem dX3_requireWithin_1 : decode cX3_requireWithin 1 = .ok (.iload_n 1, 1) := by decide +kernel
theorem dX3_requireWithin_2 : decode cX3_requireWithin 2 = .ok (.if_icmp .lt 8, 3) := by decide +kernel
theorem dX3_requireWithin_5 : decode cX3_requireWithin 5 = .ok (.iload_n 0, 1) := by decide +kernel
theorem dX3_requireWithin_6 : decode cX3_requireWithin 6 = .ok (.iload_n 2, 1) := by decide +kernel
theorem dX3_requireWithin_7 : decode cX3_requireWithin 7 = .ok (.if_icmp .le 13, 3) := by decide +kernel
theorem dX3_requireWithin_10 : decode cX3_requireWithin 10 = .ok (.new 105, 3) := by decide +kernel
theorem dX3_requireWithin_13 : decode cX3_requireWithin 13 = .ok (.dup, 1) := by decide +kernel
theorem dX3_requireWithin_14 : decode cX3_requireWithin 14 = .ok (.ldc 144, 2) := by decide +kernel
theorem dX3_requireWithin_16 : decode cX3_requireWithin 16 = .ok (.invokespecial 109, 3) := by decide +kernel
theorem dX3_requireWithin_19 : decode cX3_requireWithin 19 = .ok (.athrow, 1) := by decide +kernel
theorem dX3_requireWithin_20 : decode cX3_requireWithin 20 = .ok (.return_, 1) := by decide +kernel
theorem dX3_requireStep_0 : decode cX3_requireStep 0 = .ok (.iload_n 0, 1) := by decide +kernel
theorem dX3_requireStep_1 : decode cX3_requireStep 1 = .ok (.iconst 0, 1) := by decide +kernel
theorem dX3_requireStep_2 : decode cX3_requireStep 2 = .ok (.iconst 4, 1) := by decide +kernel
theorem dX3_requireStep_3 : decode cX3_requireStep 3 = .ok (.invokestatic 30, 3) := by decide +kernel
theorem dX3_requireStep_6 : decode cX3_requireStep 6 = .ok (.return_, 1) := by decide +kernel
theorem dX3_requireSize_0 : decode cX3_requireSize 0 = .ok (.iload_n 0, 1) := by decide +kernel
theorem dX3_requireSize_1 : decode cX3_requireSize 1 = .ok (.iconst 0, 1) := by decide +kernel
theorem dX3_requireSize_2 : decode cX3_requireSize 2 = .ok (.iconst 2, 1) := by decide +kernel
theorem dX3_requireSize_3 : decode cX3_requireSize 3 = .ok (.invokestatic 30, 3) := by decide +kernel
theorem dX3_requireSize_6 : decode cX3_requireSize 6 = .ok (.return_, 1) := by decide +kernel
theorem dX3_requireRoomFor_0 : decode cX3_requireRoomFor 0 = .ok (.aload_n 0, 1) := by decide +kernel
theorem dX3_requireRoomFor_1 : decode cX3_requireRoomFor 1 = .ok (.invokevirtual 146, 3) := by decide +kernel
theorem dX3_requireRoomFor_4 : decode cX3_requireRoomFor 4 = .ok (.iload_n 1, 1) := by decide +kernel
theorem dX3_requireRoomFor_5 : decode cX3_requireRoomFor 5 = .ok (.iadd, 1) := by decide +kernel
theorem dX3_requireRoomFor_6 : decode cX3_requireRoomFor 6 = .ok (.bipush 60, 2) := by decide +kernel
theorem dX3_requireRoomFor_8 : decode cX3_requireRoomFor 8 = .ok (.if_icmp .le 13, 3) := by decide +kernel
theorem dX3_requireRoomFor_11 : decode cX3_requireRoomFor 11 = .ok (.new 51, 3) := by decide +kernel
theorem dX3_requireRoomFor_14 : decode cX3_requireRoomFor 14 = .ok (.dup, 1) := by decide +kernel
theorem dX3_requireRoomFor_15 : decode cX3_requireRoomFor 15 = .ok (.ldc 149, 2) := by decide +kernel
theorem dX3_requireRoomFor_17 : decode cX3_requireRoomFor 17 = .ok (.invokespecial 55, 3) := by decide +kernel
theorem dX3_requireRoomFor_20 : decode cX3_requireRoomFor 20 = .ok (.athrow, 1) := by decide +kernel
theorem dX3_requireRoomFor_21 : decode cX3_requireRoomFor 21 = .ok (.return_, 1) := by decide +kernel
theorem dX3_requireSeasonOn_0 : decode cX3_requireSeasonOn 0 = .ok (.aload_n 0, 1) := by decide +kernel
theorem dX3_requireSeasonOn_1 : decode cX3_requireSeasonOn 1 = .ok (.getfield 12, 3) := by decide +kernel
theorem dX3_requireSeasonOn_4 : decode cX3_requireSeasonOn 4 = .ok (.getfield 34, 3) := by decide +kernel
theorem dX3_requireSeasonOn_7 : decode cX3_requireSeasonOn 7 = .ok (.aload_n 0, 1) := by decide +kernel
theorem dX3_requireSeasonOn_8 : decode cX3_requireSeasonOn 8 = .ok (.getfield 12, 3) := by decide +kernel
theorem dX3_requireSeasonOn_11 : decode cX3_requireSeasonOn 11 = .ok (.getfield 133, 3) := by decide +kernel
theorem dX3_requireSeasonOn_14 : decode cX3_requireSeasonOn 14 = .ok (.if_icmp .lt 13, 3) := by decide +kernel
theorem dX3_requireSeasonOn_17 : decode cX3_requireSeasonOn 17 = .ok (.new 51, 3) := by decide +kernel
theorem dX3_requireSeasonOn_20 : decode cX3_requireSeasonOn 20 = .ok (.dup, 1) := by decide +kernel
theorem dX3_requireSeasonOn_21 : decode cX3_requireSeasonOn 21 = .ok (.ldc 151, 2) := by decide +kernel
theorem dX3_requireSeasonOn_23 : decode cX3_requireSeasonOn 23 = .ok (.invokespecial 55, 3) := by decide +kernel
theorem dX3_requireSeasonOn_26 : decode cX3_requireSeasonOn 26 = .ok (.athrow, 1) := by decide +kernel
theorem dX3_requireSeasonOn_27 : decode cX3_requireSeasonOn 27 = .ok (.return_, 1) := by decide +kernel
theorem dX3_storeOf_0 : decode cX3_storeOf 0 = .ok (.iload_n 1, 1) := by decide +kernel
theorem dX3_storeOf_1 : decode cX3_storeOf 1 = .ok (.iconst 0, 1) := by decide +kernel
theorem dX3_storeOf_2 : decode cX3_storeOf 2 = .ok (.iconst 2, 1) := by decide +kernel
theorem dX3_storeOf_3 : decode cX3_storeOf 3 = .ok (.invokestatic 30, 3) := by decide +kernel
theorem dX3_storeOf_6 : decode cX3_storeOf 6 = .ok (.aload_n 0, 1) := by decide +kernel
theorem dX3_storeOf_7 : decode cX3_storeOf 7 = .ok (.getfield 18, 3) := by decide +kernel
theorem dX3_storeOf_10 : decode cX3_storeOf 10 = .ok (.iload_n 1, 1) := by decide +kernel
theorem dX3_storeOf_11 : decode cX3_storeOf 11 = .ok (.aaload, 1) := by decide +kernel
theorem dX3_storeOf_12 : decode cX3_storeOf 12 = .ok (.areturn, 1) := by decide +kernel
theorem dX4_init_0 : decode cX4_init 0 = .ok (.aload_n 0, 1) := by decide +kernel
theorem dX4_init_1 : decode cX4_init 1 = .ok (.invokespecial 1, 3) := by decide +kernel
theorem dX4_init_4 : decode cX4_init 4 = .ok (.aload_n 0, 1) := by decide +kernel
theorem dX4_init_5 : decode cX4_init 5 = .ok (.bipush 8, 2) := by decide +kernel
theorem dX4_init_7 : decode cX4_init 7 = .ok (.putfield 7, 3) := by decide +kernel
theorem dX4_init_10 : decode cX4_init 10 = .ok (.aload_n 0, 1) := by decide +kernel
theorem dX4_init_11 : decode cX4_init 11 = .ok (.iconst 5, 1) := by decide +kernel
theorem dX4_init_12 : decode cX4_init 12 = .ok (.newarray .int, 2) := by decide +kernel
theorem dX4_init_14 : decode cX4_init 14 = .ok (.putfield 13, 3) := by decide +kernel
theorem dX4_init_17 : decode cX4_init 17 = .ok (.aload_n 0, 1) := by decide +kernel
theorem dX4_init_18 : decode cX4_init 18 = .ok (.bipush 15, 2) := by decide +kernel
theorem dX4_init_20 : decode cX4_init 20 = .ok (.newarray .int, 2) := by decide +kernel
theorem dX4_init_22 : decode cX4_init 22 = .ok (.putfield 17, 3) := by decide +kernel
theorem dX4_init_25 : decode cX4_init 25 = .ok (.aload_n 0, 1) := by decide +kernel
theorem dX4_init_26 : decode cX4_init 26 = .ok (.iconst 2, 1) := by decide +kernel
theorem dX4_init_27 : decode cX4_init 27 = .ok (.putfield 20, 3) := by decide +kernel
theorem dX4_init_30 : decode cX4_init 30 = .ok (.aload_n 0, 1) := by decide +kernel
theorem dX4_init_31 : decode cX4_init 31 = .ok (.bipush 9, 2) := by decide +kernel
theorem dX4_init_33 : decode cX4_init 33 = .ok (.newarray .int, 2) := by decide +kernel
theorem dX4_init_35 : decode cX4_init 35 = .ok (.putfield 23, 3) := by decide +kernel
theorem dX4_init_38 : decode cX4_init 38 = .ok (.aload_n 0, 1) := by decide +kernel
theorem dX4_init_39 : decode cX4_init 39 = .ok (.iconst 3, 1) := by decide +kernel
theorem dX4_init_40 : decode cX4_init 40 = .ok (.newarray .int, 2) := by decide +kernel
theorem dX4_init_42 : decode cX4_init 42 = .ok (.putfield 26, 3) := by decide +kernel
theorem dX4_init_45 : decode cX4_init 45 = .ok (.aload_n 0, 1) := by decide +kernel
theorem dX4_init_46 : decode cX4_init 46 = .ok (.iconst 3, 1) := by decide +kernel
theorem dX4_init_47 : decode cX4_init 47 = .ok (.newarray .int, 2) := by decide +kernel
theorem dX4_init_49 : decode cX4_init 49 = .ok (.putfield 29, 3) := by decide +kernel
theorem dX4_init_52 : decode cX4_init 52 = .ok (.aload_n 0, 1) := by decide +kernel
theorem dX4_init_53 : decode cX4_init 53 = .ok (.iconst 3, 1) := by decide +kernel
theorem dX4_init_54 : decode cX4_init 54 = .ok (.newarray .int, 2) := by decide +kernel
theorem dX4_init_56 : decode cX4_init 56 = .ok (.putfield 32, 3) := by decide +kernel
theorem dX4_init_59 : decode cX4_init 59 = .ok (.aload_n 0, 1) := by decide +kernel
theorem dX4_init_60 : decode cX4_init 60 = .ok (.sipush 16775, 3) := by decide +kernel
theorem dX4_init_63 : decode cX4_init 63 = .ok (.newarray .int, 2) := by decide +kernel
theorem dX4_init_65 : decode cX4_init 65 = .ok (.putfield 35, 3) := by decide +kernel
theorem dX4_init_68 : decode cX4_init 68 = .ok (.iconst 0, 1) := by decide +kernel
theorem dX4_init_69 : decode cX4_init 69 = .ok (.istore_n 1, 1) := by decide +kernel
theorem dX4_init_70 : decode cX4_init 70 = .ok (.iload_n 1, 1) := by decide +kernel
theorem dX4_init_71 : decode cX4_init 71 = .ok (.iconst 5, 1) := by decide +kernel
theorem dX4_init_72 : decode cX4_init 72 = .ok (.if_icmp .ge 17, 3) := by decide +kernel
theorem dX4_init_75 : decode cX4_init 75 = .ok (.aload_n 0, 1) := by decide +kernel
theorem dX4_init_76 : decode cX4_init 76 = .ok (.getfield 13, 3) := by decide +kernel
theorem dX4_init_79 : decode cX4_init 79 = .ok (.iload_n 1, 1) := by decide +kernel
theorem dX4_init_80 : decode cX4_init 80 = .ok (.bipush 100, 2) := by decide +kernel
theorem dX4_init_82 : decode cX4_init 82 = .ok (.iastore, 1) := by decide +kernel
theorem dX4_init_83 : decode cX4_init 83 = .ok (.iinc 1 1, 3) := by decide +kernel
theorem dX4_init_86 : decode cX4_init 86 = .ok (.goto (-16), 3) := by decide +kernel
theorem dX4_init_89 : decode cX4_init 89 = .ok (.iconst 0, 1) := by decide +kernel
theorem dX4_init_90 : decode cX4_init 90 = .ok (.istore_n 1, 1) := by decide +kernel
theorem dX4_init_91 : decode cX4_init 91 = .ok (.iload_n 1, 1) := by decide +kernel
theorem dX4_init_92 : decode cX4_init 92 = .ok (.iconst 3, 1) := by decide +kernel
theorem dX4_init_93 : decode cX4_init 93 = .ok (.if_icmp .ge 16, 3) := by decide +kernel
theorem dX4_init_96 : decode cX4_init 96 = .ok (.aload_n 0, 1) := by decide +kernel
theorem dX4_init_97 : decode cX4_init 97 = .ok (.getfield 29, 3) := by decide +kernel
theorem dX4_init_100 : decode cX4_init 100 = .ok (.iload_n 1, 1) := by decide +kernel
theorem dX4_init_101 : decode cX4_init 101 = .ok (.iconst (-1), 1) := by decide +kernel
theorem dX4_init_102 : decode cX4_init 102 = .ok (.iastore, 1) := by decide +kernel
theorem dX4_init_103 : decode cX4_init 103 = .ok (.iinc 1 1, 3) := by decide +kernel
theorem dX4_init_106 : decode cX4_init 106 = .ok (.goto (-15), 3) := by decide +kernel
theorem dX4_init_109 : decode cX4_init 109 = .ok (.return_, 1) := by decide +kernel
theorem dX4_thrown_0 : decode cX4_thrown 0 = .ok (.aload_n 0, 1) := by decide +kernel
theorem dX4_thrown_1 : decode cX4_thrown 1 = .ok (.getfield 38, 3) := by decide +kernel
theorem dX4_thrown_4 : decode cX4_thrown 4 = .ok (.ireturn, 1) := by decide +kernel
theorem dX4_in_0 : decode cX4_in 0 = .ok (.iload_n 0, 1) := by decide +kernel
theorem dX4_in_1 : decode cX4_in 1 = .ok (.iload_n 1, 1) := by decide +kernel
theorem dX4_in_2 : decode cX4_in 2 = .ok (.if_icmp .lt 12, 3) := by decide +kernel
theorem dX4_in_5 : decode cX4_in 5 = .ok (.iload_n 0, 1) := by decide +kernel
theorem dX4_in_6 : decode cX4_in 6 = .ok (.iload_n 2, 1) := by decide +kernel
theorem dX4_in_7 : decode cX4_in 7 = .ok (.if_icmp .gt 7, 3) := by decide +kernel
theorem dX4_in_10 : decode cX4_in 10 = .ok (.iconst 1, 1) := by decide +kernel
theorem dX4_in_11 : decode cX4_in 11 = .ok (.goto 4, 3) := by decide +kernel
theorem dX4_in_14 : decode cX4_in 14 = .ok (.iconst 0, 1) := by decide +kernel
theorem dX4_in_15 : decode cX4_in 15 = .ok (.ireturn, 1) := by decide +kernel
theorem dX4_asked_0 : decode cX4_asked 0 = .ok (.aload_n 0, 1) := by decide +kernel
theorem dX4_asked_1 : decode cX4_asked 1 = .ok (.iload_n 1, 1) := by decide +kernel
theorem dX4_asked_2 : decode cX4_asked 2 = .ok (.ifCond .eq 7, 3) := by decide +kernel
theorem dX4_asked_5 : decode cX4_asked 5 = .ok (.iconst 0, 1) := by decide +kernel
theorem dX4_asked_6 : decode cX4_asked 6 = .ok (.goto 4, 3) := by decide +kernel
theorem dX4_asked_9 : decode cX4_asked 9 = .ok (.iconst 1, 1) := by decide +kernel
theorem dX4_asked_10 : decode cX4_asked 10 = .ok (.putfield 38, 3) := by decide +kernel
theorem dX4_asked_13 : decode cX4_asked 13 = .ok (.iload_n 1, 1) := by decide +kernel
theorem dX4_asked_14 : decode cX4_asked 14 = .ok (.ireturn, 1) := by decide +kernel
theorem dX4_asked__0 : decode cX4_asked_ 0 = .ok (.aload_n 0, 1) := by decide +kernel
theorem dX4_asked__1 : decode cX4_asked_ 1 = .ok (.iload_n 1, 1) := by decide +kernel
theorem dX4_asked__2 : decode cX4_asked_ 2 = .ok (.ifCond .ne 7, 3) := by decide +kernel
theorem dX4_asked__5 : decode cX4_asked_ 5 = .ok (.iconst 1, 1) := by decide +kernel
theorem dX4_asked__6 : decode cX4_asked_ 6 = .ok (.goto 12, 3) := by decide +kernel
theorem dX4_asked__9 : decode cX4_asked_ 9 = .ok (.iload_n 2, 1) := by decide +kernel
theorem dX4_asked__10 : decode cX4_asked_ 10 = .ok (.ifCond .eq 7, 3) := by decide +kernel
theorem dX4_asked__13 : decode cX4_asked_ 13 = .ok (.iconst 0, 1) := by decide +kernel
theorem dX4_asked__14 : decode cX4_asked_ 14 = .ok (.goto 4, 3) := by decide +kernel
theorem dX4_asked__17 : decode cX4_asked_ 17 = .ok (.iconst 2, 1) := by decide +kernel
theorem dX4_asked__18 : decode cX4_asked_ 18 = .ok (.putfield 38, 3) := by decide +kernel
theorem dX4_asked__21 : decode cX4_asked_ 21 = .ok (.aload_n 0, 1) := by decide +kernel
theorem dX4_asked__22 : decode cX4_asked_ 22 = .ok (.getfield 38, 3) := by decide +kernel
theorem dX4_asked__25 : decode cX4_asked_ 25 = .ok (.ifCond .ne 7, 3) := by decide +kernel
theorem dX4_asked__28 : decode cX4_asked_ 28 = .ok (.iconst 1, 1) := by decide +kernel
theorem dX4_asked__29 : decode cX4_asked_ 29 = .ok (.goto 4, 3) := by decide +kernel
theorem dX4_asked__32 : decode cX4_asked_ 32 = .ok (.iconst 0, 1) := by decide +kernel
theorem dX4_asked__33 : decode cX4_asked_ 33 = .ok (.ireturn, 1) := by decide +kernel
theorem dX4_told_0 : decode cX4_told 0 = .ok (.aload_n 0, 1) := by decide +kernel
theorem dX4_told_1 : decode cX4_told 1 = .ok (.iconst 0, 1) := by decide +kernel
theorem dX4_told_2 : decode cX4_told 2 = .ok (.putfield 38, 3) := by decide +kernel
theorem dX4_told_5 : decode cX4_told 5 = .ok (.iload_n 1, 1) := by decide +kernel
theorem dX4_told_6 : decode cX4_told 6 = .ok (.ireturn, 1) := by decide +kernel
theorem dX4_isStore_0 : decode cX4_isStore 0 = .ok (.iload_n 0, 1) := by decide +kernel
theorem dX4_isStore_1 : decode cX4_isStore 1 = .ok (.iconst 0, 1) := by decide +kernel
theorem dX4_isStore_2 : decode cX4_isStore 2 = .ok (.iconst 2, 1) := by decide +kernel
theorem dX4_isStore_3 : decode cX4_isStore 3 = .ok (.invokestatic 41, 3) := by decide +kernel
theorem dX4_isStore_6 : decode cX4_isStore 6 = .ok (.ireturn, 1) := by decide +kernel
theorem dX4_isSize_0 : decode cX4_isSize 0 = .ok (.iload_n 0, 1) := by decide +kernel
theorem dX4_isSize_1 : decode cX4_isSize 1 = .ok (.iconst 0, 1) := by decide +kernel
theorem dX4_isSize_2 : decode cX4_isSize 2 = .ok (.iconst 2, 1) := by decide +kernel
theorem dX4_isSize_3 : decode cX4_isSize 3 = .ok (.invokestatic 41, 3) := by decide +kernel
theorem dX4_isSize_6 : decode cX4_isSize 6 = .ok (.ireturn, 1) := by decide +kernel
theorem dX4_isStep_0 : decode cX4_isStep 0 = .ok (.iload_n 0, 1) := by decide +kernel
theorem dX4_isStep_1 : decode cX4_isStep 1 = .ok (.iconst 0, 1) := by decide +kernel
theorem dX4_isStep_2 : decode cX4_isStep 2 = .ok (.iconst 4, 1) := by decide +kernel
theorem dX4_isStep_3 : decode cX4_isStep 3 = .ok (.invokestatic 41, 3) := by decide +kernel
theorem dX4_isStep_6 : decode cX4_isStep 6 = .ok (.ireturn, 1) := by decide +kernel
theorem dX4_whole_0 : decode cX4_whole 0 = .ok (.aload_n 0, 1) := by decide +kernel
theorem dX4_whole_1 : decode cX4_whole 1 = .ok (.getfield 23, 3) := by decide +kernel
theorem dX4_whole_4 : decode cX4_whole 4 = .ok (.iconst 3, 1) := by decide +kernel
theorem dX4_whole_5 : decode cX4_whole 5 = .ok (.iload_n 1, 1) := by decide +kernel
theorem dX4_whole_6 : decode cX4_whole 6 = .ok (.imul, 1) := by decide +kernel
theorem dX4_whole_7 : decode cX4_whole 7 = .ok (.iaload, 1) := by decide +kernel
theorem dX4_whole_8 : decode cX4_whole 8 = .ok (.aload_n 0, 1) := by decide +kernel
theorem dX4_whole_9 : decode cX4_whole 9 = .ok (.getfield 23, 3) := by decide +kernel
theorem dX4_whole_12 : decode cX4_whole 12 = .ok (.iconst 3, 1) := by decide +kernel
theorem dX4_whole_13 : decode cX4_whole 13 = .ok (.iload_n 1, 1) := by decide +kernel
theorem dX4_whole_14 : decode cX4_whole 14 = .ok (.imul, 1) := by decide +kernel
theorem dX4_whole_15 : decode cX4_whole 15 = .ok (.iconst 1, 1) := by decide +kernel
theorem dX4_whole_16 : decode cX4_whole 16 = .ok (.iadd, 1) := by decide +kernel
theorem dX4_whole_17 : decode cX4_whole 17 = .ok (.iaload, 1) := by decide +kernel
theorem dX4_whole_18 : decode cX4_whole 18 = .ok (.iadd, 1) := by decide +kernel
theorem dX4_whole_19 : decode cX4_whole 19 = .ok (.aload_n 0, 1) := by decide +kernel
theorem dX4_whole_20 : decode cX4_whole 20 = .ok (.getfield 23, 3) := by decide +kernel
theorem dX4_whole_23 : decode cX4_whole 23 = .ok (.iconst 3, 1) := by decide +kernel
theorem dX4_whole_24 : decode cX4_whole 24 = .ok (.iload_n 1, 1) := by decide +kernel
theorem dX4_whole_25 : decode cX4_whole 25 = .ok (.imul, 1) := by decide +kernel
theorem dX4_whole_26 : decode cX4_whole 26 = .ok (.iconst 2, 1) := by decide +kernel
theorem dX4_whole_27 : decode cX4_whole 27 = .ok (.iadd, 1) := by decide +kernel
theorem dX4_whole_28 : decode cX4_whole 28 = .ok (.iaload, 1) := by decide +kernel
theorem dX4_whole_29 : decode cX4_whole 29 = .ok (.iadd, 1) := by decide +kernel
theorem dX4_whole_30 : decode cX4_whole 30 = .ok (.ireturn, 1) := by decide +kernel
theorem dX4_begin_0 : decode cX4_begin 0 = .ok (.aload_n 0, 1) := by decide +kernel
theorem dX4_begin_1 : decode cX4_begin 1 = .ok (.iload_n 1, 1) := by decide +kernel
theorem dX4_begin_2 : decode cX4_begin 2 = .ok (.iconst 1, 1) := by decide +kernel
theorem dX4_begin_3 : decode cX4_begin 3 = .ok (.bipush 10, 2) := by decide +kernel
theorem dX4_begin_5 : decode cX4_begin 5 = .ok (.invokestatic 41, 3) := by decide +kernel
theorem dX4_begin_8 : decode cX4_begin 8 = .ok (.invokevirtual 45, 3) := by decide +kernel
theorem dX4_begin_11 : decode cX4_begin 11 = .ok (.ifCond .ne 5, 3) := by decide +kernel
theorem dX4_begin_14 : decode cX4_begin 14 = .ok (.iconst 0, 1) := by decide +kernel
theorem dX4_begin_15 : decode cX4_begin 15 = .ok (.ireturn, 1) := by decide +kernel
theorem dX4_begin_16 : decode cX4_begin 16 = .ok (.aload_n 0, 1) := by decide +kernel
theorem dX4_begin_17 : decode cX4_begin 17 = .ok (.getfield 49, 3) := by decide +kernel
theorem dX4_begin_20 : decode cX4_begin 20 = .ok (.istore_n 2, 1) := by decide +kernel
theorem dX4_begin_21 : decode cX4_begin 21 = .ok (.aload_n 0, 1) := by decide +kernel
theorem dX4_begin_22 : decode cX4_begin 22 = .ok (.iload_n 1, 1) := by decide +kernel
theorem dX4_begin_23 : decode cX4_begin 23 = .ok (.putfield 7, 3) := by decide +kernel
theorem dX4_begin_26 : decode cX4_begin 26 = .ok (.aload_n 0, 1) := by decide +kernel
theorem dX4_begin_27 : decode cX4_begin 27 = .ok (.iconst 0, 1) := by decide +kernel
theorem dX4_begin_28 : decode cX4_begin 28 = .ok (.putfield 49, 3) := by decide +kernel
theorem dX4_begin_31 : decode cX4_begin 31 = .ok (.aload_n 0, 1) := by decide +kernel
theorem dX4_begin_32 : decode cX4_begin 32 = .ok (.iconst 0, 1) := by decide +kernel
theorem dX4_begin_33 : decode cX4_begin 33 = .ok (.putfield 52, 3) := by decide +kernel
theorem dX4_begin_36 : decode cX4_begin 36 = .ok (.iconst 0, 1) := by decide +kernel
theorem dX4_begin_37 : decode cX4_begin 37 = .ok (.istore_n 3, 1) := by decide +kernel
theorem dX4_begin_38 : decode cX4_begin 38 = .ok (.iload_n 3, 1) := by decide +kernel
theorem dX4_begin_39 : decode cX4_begin 39 = .ok (.iconst 3, 1) := by decide +kernel
theorem dX4_begin_40 : decode cX4_begin 40 = .ok (.if_icmp .ge 30, 3) := by decide +kernel
theorem dX4_begin_43 : decode cX4_begin 43 = .ok (.aload_n 0, 1) := by decide +kernel
theorem dX4_begin_44 : decode cX4_begin 44 = .ok (.getfield 26, 3) := by decide +kernel
theorem dX4_begin_47 : decode cX4_begin 47 = .ok (.iload_n 3, 1) := by decide +kernel
theorem dX4_begin_48 : decode cX4_begin 48 = .ok (.iconst 0, 1) := by decide +kernel
theorem dX4_begin_49 : decode cX4_begin 49 = .ok (.iastore, 1) := by decide +kernel
theorem dX4_begin_50 : decode cX4_begin 50 = .ok (.aload_n 0, 1) := by decide +kernel
theorem dX4_begin_51 : decode cX4_begin 51 = .ok (.getfield 29, 3) := by decide +kernel
theorem dX4_begin_54 : decode cX4_begin 54 = .ok (.iload_n 3, 1) := by decide +kernel
theorem dX4_begin_55 : decode cX4_begin 55 = .ok (.iconst (-1), 1) := by decide +kernel
theorem dX4_begin_56 : decode cX4_begin 56 = .ok (.iastore, 1) := by decide +kernel
theorem dX4_begin_57 : decode cX4_begin 57 = .ok (.aload_n 0, 1) := by decide +kernel
theorem dX4_begin_58 : decode cX4_begin 58 = .ok (.getfield 32, 3) := by decide +kernel
theorem dX4_begin_61 : decode cX4_begin 61 = .ok (.iload_n 3, 1) := by decide +kernel
theorem dX4_begin_62 : decode cX4_begin 62 = .ok (.iconst 0, 1) := by decide +kernel
theorem dX4_begin_63 : decode cX4_begin 63 = .ok (.iastore, 1) := by decide +kernel
theorem dX4_begin_64 : decode cX4_begin 64 = .ok (.iinc 3 1, 3) := by decide +kernel
theorem dX4_begin_67 : decode cX4_begin 67 = .ok (.goto (-29), 3) := by decide +kernel
theorem dX4_begin_70 : decode cX4_begin 70 = .ok (.iload_n 2, 1) := by decide +kernel
theorem dX4_begin_71 : decode cX4_begin 71 = .ok (.ireturn, 1) := by decide +kernel
theorem dX4_setPrice_0 : decode cX4_setPrice 0 = .ok (.iload_n 1, 1) := by decide +kernel
theorem dX4_setPrice_1 : decode cX4_setPrice 1 = .ok (.invokestatic 55, 3) := by decide +kernel
theorem dX4_setPrice_4 : decode cX4_setPrice 4 = .ok (.ifCond .eq 18, 3) := by decide +kernel
theorem dX4_setPrice_7 : decode cX4_setPrice 7 = .ok (.iload_n 2, 1) := by decide +kernel
theorem dX4_setPrice_8 : decode cX4_setPrice 8 = .ok (.iconst 0, 1) := by decide +kernel
theorem dX4_setPrice_9 : decode cX4_setPrice 9 = .ok (.sipush 1000, 3) := by decide +kernel
theorem dX4_setPrice_12 : decode cX4_setPrice 12 = .ok (.invokestatic 41, 3) := by decide +kernel
theorem dX4_setPrice_15 : decode cX4_setPrice 15 = .ok (.ifCond .eq 7, 3) := by decide +kernel
theorem dX4_setPrice_18 : decode cX4_setPrice 18 = .ok (.iconst 1, 1) := by decide +kernel
theorem dX4_setPrice_19 : decode cX4_setPrice 19 = .ok (.goto 4, 3) := by decide +kernel
theorem dX4_setPrice_22 : decode cX4_setPrice 22 = .ok (.iconst 0, 1) := by decide +kernel
theorem dX4_setPrice_23 : decode cX4_setPrice 23 = .ok (.istore_n 3, 1) := by decide +kernel
theorem dX4_setPrice_24 : decode cX4_setPrice 24 = .ok (.iload_n 3, 1) := by decide +kernel
theorem dX4_setPrice_25 : decode cX4_setPrice 25 = .ok (.ifCond .eq 40, 3) := by decide +kernel
theorem dX4_setPrice_28 : decode cX4_setPrice 28 = .ok (.iload_n 1, 1) := by decide +kernel
theorem dX4_setPrice_29 : decode cX4_setPrice 29 = .ok (.ifCond .eq 15, 3) := by decide +kernel
theorem dX4_setPrice_32 : decode cX4_setPrice 32 = .ok (.iload_n 2, 1) := by decide +kernel
theorem dX4_setPrice_33 : decode cX4_setPrice 33 = .ok (.aload_n 0, 1) := by decide +kernel
theorem dX4_setPrice_34 : decode cX4_setPrice 34 = .ok (.getfield 13, 3) := by decide +kernel
theorem dX4_setPrice_37 : decode cX4_setPrice 37 = .ok (.iload_n 1, 1) := by decide +kernel
theorem dX4_setPrice_38 : decode cX4_setPrice 38 = .ok (.iconst 1, 1) := by decide +kernel
theorem dX4_setPrice_39 : decode cX4_setPrice 39 = .ok (.isub, 1) := by decide +kernel
theorem dX4_setPrice_40 : decode cX4_setPrice 40 = .ok (.iaload, 1) := by decide +kernel
theorem dX4_setPrice_41 : decode cX4_setPrice 41 = .ok (.if_icmp .gt 24, 3) := by decide +kernel
theorem dX4_setPrice_44 : decode cX4_setPrice 44 = .ok (.iload_n 1, 1) := by decide +kernel
theorem dX4_setPrice_45 : decode cX4_setPrice 45 = .ok (.iconst 4, 1) := by decide +kernel
theorem dX4_setPrice_46 : decode cX4_setPrice 46 = .ok (.if_icmp .eq 15, 3) := by decide +kernel
theorem dX4_setPrice_49 : decode cX4_setPrice 49 = .ok (.iload_n 2, 1) := by decide +kernel
theorem dX4_setPrice_50 : decode cX4_setPrice 50 = .ok (.aload_n 0, 1) := by decide +kernel
theorem dX4_setPrice_51 : decode cX4_setPrice 51 = .ok (.getfield 13, 3) := by decide +kernel
theorem dX4_setPrice_54 : decode cX4_setPrice 54 = .ok (.iload_n 1, 1) := by decide +kernel
theorem dX4_setPrice_55 : decode cX4_setPrice 55 = .ok (.iconst 1, 1) := by decide +kernel
theorem dX4_setPrice_56 : decode cX4_setPrice 56 = .ok (.iadd, 1) := by decide +kernel
theorem dX4_setPrice_57 : decode cX4_setPrice 57 = .ok (.iaload, 1) := by decide +kernel
theorem dX4_setPrice_58 : decode cX4_setPrice 58 = .ok (.if_icmp .lt 7, 3) := by decide +kernel
theorem dX4_setPrice_61 : decode cX4_setPrice 61 = .ok (.iconst 1, 1) := by decide +kernel
theorem dX4_setPrice_62 : decode cX4_setPrice 62 = .ok (.goto 4, 3) := by decide +kernel
theorem dX4_setPrice_65 : decode cX4_setPrice 65 = .ok (.iconst 0, 1) := by decide +kernel
theorem dX4_setPrice_66 : decode cX4_setPrice 66 = .ok (.istore 4, 2) := by decide +kernel
theorem dX4_setPrice_68 : decode cX4_setPrice 68 = .ok (.aload_n 0, 1) := by decide +kernel
theorem dX4_setPrice_69 : decode cX4_setPrice 69 = .ok (.iload_n 3, 1) := by decide +kernel
theorem dX4_setPrice_70 : decode cX4_setPrice 70 = .ok (.iload 4, 2) := by decide +kernel
theorem dX4_setPrice_72 : decode cX4_setPrice 72 = .ok (.invokevirtual 59, 3) := by decide +kernel
theorem dX4_setPrice_75 : decode cX4_setPrice 75 = .ok (.ifCond .ne 5, 3) := by decide +kernel
theorem dX4_setPrice_78 : decode cX4_setPrice 78 = .ok (.iconst 0, 1) := by decide +kernel
theorem dX4_setPrice_79 : decode cX4_setPrice 79 = .ok (.ireturn, 1) := by decide +kernel
theorem dX4_setPrice_80 : decode cX4_setPrice 80 = .ok (.aload_n 0, 1) := by decide +kernel
theorem dX4_setPrice_81 : decode cX4_setPrice 81 = .ok (.getfield 13, 3) := by decide +kernel
theorem dX4_setPrice_84 : decode cX4_setPrice 84 = .ok (.iload_n 1, 1) := by decide +kernel
theorem dX4_setPrice_85 : decode cX4_setPrice 85 = .ok (.iaload, 1) := by decide +kernel
theorem dX4_setPrice_86 : decode cX4_setPrice 86 = .ok (.istore 5, 2) := by decide +kernel
theorem dX4_setPrice_88 : decode cX4_setPrice 88 = .ok (.aload_n 0, 1) := by decide +kernel
theorem dX4_setPrice_89 : decode cX4_setPrice 89 = .ok (.getfield 13, 3) := by decide +kernel
theorem dX4_setPrice_92 : decode cX4_setPrice 92 = .ok (.iload_n 1, 1) := by decide +kernel
theorem dX4_setPrice_93 : decode cX4_setPrice 93 = .ok (.iload_n 2, 1) := by decide +kernel
theorem dX4_setPrice_94 : decode cX4_setPrice 94 = .ok (.iastore, 1) := by decide +kernel
theorem dX4_setPrice_95 : decode cX4_setPrice 95 = .ok (.iload 5, 2) := by decide +kernel
theorem dX4_setPrice_97 : decode cX4_setPrice 97 = .ok (.ireturn, 1) := by decide +kernel
theorem dX4_setDemand_0 : decode cX4_setDemand 0 = .ok (.aload_n 0, 1) := by decide +kernel
theorem dX4_setDemand_1 : decode cX4_setDemand 1 = .ok (.iload_n 1, 1) := by decide +kernel
theorem dX4_setDemand_2 : decode cX4_setDemand 2 = .ok (.invokestatic 62, 3) := by decide +kernel
theorem dX4_setDemand_5 : decode cX4_setDemand 5 = .ok (.ifCond .eq 24, 3) := by decide +kernel
theorem dX4_setDemand_8 : decode cX4_setDemand 8 = .ok (.iload_n 2, 1) := by decide +kernel
theorem dX4_setDemand_9 : decode cX4_setDemand 9 = .ok (.invokestatic 55, 3) := by decide +kernel
theorem dX4_setDemand_12 : decode cX4_setDemand 12 = .ok (.ifCond .eq 17, 3) := by decide +kernel
theorem dX4_setDemand_15 : decode cX4_setDemand 15 = .ok (.iload_n 3, 1) := by decide +kernel
theorem dX4_setDemand_16 : decode cX4_setDemand 16 = .ok (.iconst 0, 1) := by decide +kernel
theorem dX4_setDemand_17 : decode cX4_setDemand 17 = .ok (.bipush 30, 2) := by decide +kernel
theorem dX4_setDemand_19 : decode cX4_setDemand 19 = .ok (.invokestatic 41, 3) := by decide +kernel
theorem dX4_setDemand_22 : decode cX4_setDemand 22 = .ok (.ifCond .eq 7, 3) := by decide +kernel
theorem dX4_setDemand_25 : decode cX4_setDemand 25 = .ok (.iconst 1, 1) := by decide +kernel
theorem dX4_setDemand_26 : decode cX4_setDemand 26 = .ok (.goto 4, 3) := by decide +kernel
theorem dX4_setDemand_29 : decode cX4_setDemand 29 = .ok (.iconst 0, 1) := by decide +kernel
theorem dX4_setDemand_30 : decode cX4_setDemand 30 = .ok (.invokevirtual 45, 3) := by decide +kernel
theorem dX4_setDemand_33 : decode cX4_setDemand 33 = .ok (.ifCond .ne 5, 3) := by decide +kernel
theorem dX4_setDemand_36 : decode cX4_setDemand 36 = .ok (.iconst 0, 1) := by decide +kernel
theorem dX4_setDemand_37 : decode cX4_setDemand 37 = .ok (.ireturn, 1) := by decide +kernel
theorem dX4_setDemand_38 : decode cX4_setDemand 38 = .ok (.aload_n 0, 1) := by decide +kernel
theorem dX4_setDemand_39 : decode cX4_setDemand 39 = .ok (.getfield 17, 3) := by decide +kernel
theorem dX4_setDemand_42 : decode cX4_setDemand 42 = .ok (.iconst 5, 1) := by decide +kernel
theorem dX4_setDemand_43 : decode cX4_setDemand 43 = .ok (.iload_n 1, 1) := by decide +kernel
theorem dX4_setDemand_44 : decode cX4_setDemand 44 = .ok (.imul, 1) := by decide +kernel
theorem dX4_setDemand_45 : decode cX4_setDemand 45 = .ok (.iload_n 2, 1) := by decide +kernel
theorem dX4_setDemand_46 : decode cX4_setDemand 46 = .ok (.iadd, 1) := by decide +kernel
theorem dX4_setDemand_47 : decode cX4_setDemand 47 = .ok (.iaload, 1) := by decide +kernel
theorem dX4_setDemand_48 : decode cX4_setDemand 48 = .ok (.istore 4, 2) := by decide +kernel
theorem dX4_setDemand_50 : decode cX4_setDemand 50 = .ok (.aload_n 0, 1) := by decide +kernel
theorem dX4_setDemand_51 : decode cX4_setDemand 51 = .ok (.getfield 17, 3) := by decide +kernel
theorem dX4_setDemand_54 : decode cX4_setDemand 54 = .ok (.iconst 5, 1) := by decide +kernel
theorem dX4_setDemand_55 : decode cX4_setDemand 55 = .ok (.iload_n 1, 1) := by decide +kernel
theorem dX4_setDemand_56 : decode cX4_setDemand 56 = .ok (.imul, 1) := by decide +kernel
theorem dX4_setDemand_57 : decode cX4_setDemand 57 = .ok (.iload_n 2, 1) := by decide +kernel
theorem dX4_setDemand_58 : decode cX4_setDemand 58 = .ok (.iadd, 1) := by decide +kernel
theorem dX4_setDemand_59 : decode cX4_setDemand 59 = .ok (.iload_n 3, 1) := by decide +kernel
theorem dX4_setDemand_60 : decode cX4_setDemand 60 = .ok (.iastore, 1) := by decide +kernel
theorem dX4_setDemand_61 : decode cX4_setDemand 61 = .ok (.iload 4, 2) := by decide +kernel
theorem dX4_setDemand_63 : decode cX4_setDemand 63 = .ok (.ireturn, 1) := by decide +kernel
theorem dX4_setRules_0 : decode cX4_setRules 0 = .ok (.aload_n 0, 1) := by decide +kernel
theorem dX4_setRules_1 : decode cX4_setRules 1 = .ok (.iload_n 1, 1) := by decide +kernel
theorem dX4_setRules_2 : decode cX4_setRules 2 = .ok (.iconst 1, 1) := by decide +kernel
theorem dX4_setRules_3 : decode cX4_setRules 3 = .ok (.iconst 4, 1) := by decide +kernel
theorem dX4_setRules_4 : decode cX4_setRules 4 = .ok (.invokestatic 41, 3) := by decide +kernel
theorem dX4_setRules_7 : decode cX4_setRules 7 = .ok (.ifCond .eq 28, 3) := by decide +kernel
theorem dX4_setRules_10 : decode cX4_setRules 10 = .ok (.iload_n 2, 1) := by decide +kernel
theorem dX4_setRules_11 : decode cX4_setRules 11 = .ok (.iconst 0, 1) := by decide +kernel
theorem dX4_setRules_12 : decode cX4_setRules 12 = .ok (.sipush 1000, 3) := by decide +kernel
theorem dX4_setRules_15 : decode cX4_setRules 15 = .ok (.invokestatic 41, 3) := by decide +kernel
theorem dX4_setRules_18 : decode cX4_setRules 18 = .ok (.ifCond .eq 17, 3) := by decide +kernel
theorem dX4_setRules_21 : decode cX4_setRules 21 = .ok (.iload_n 3, 1) := by decide +kernel
theorem dX4_setRules_22 : decode cX4_setRules 22 = .ok (.iconst 0, 1) := by decide +kernel
theorem dX4_setRules_23 : decode cX4_setRules 23 = .ok (.bipush 100, 2) := by decide +kernel
theorem dX4_setRules_25 : decode cX4_setRules 25 = .ok (.invokestatic 41, 3) := by decide +kernel
theorem dX4_setRules_28 : decode cX4_setRules 28 = .ok (.ifCond .eq 7, 3) := by decide +kernel
theorem dX4_setRules_31 : decode cX4_setRules 31 = .ok (.iconst 1, 1) := by decide +kernel
theorem dX4_setRules_32 : decode cX4_setRules 32 = .ok (.goto 4, 3) := by decide +kernel
theorem dX4_setRules_35 : decode cX4_setRules 35 = .ok (.iconst 0, 1) := by decide +kernel
theorem dX4_setRules_36 : decode cX4_setRules 36 = .ok (.invokevirtual 45, 3) := by decide +kernel
theorem dX4_setRules_39 : decode cX4_setRules 39 = .ok (.ifCond .eq 18, 3) := by decide +kernel
theorem dX4_setRules_42 : decode cX4_setRules 42 = .ok (.aload_n 0, 1) := by decide +kernel
theorem dX4_setRules_43 : decode cX4_setRules 43 = .ok (.iload_n 1, 1) := by decide +kernel
theorem dX4_setRules_44 : decode cX4_setRules 44 = .ok (.putfield 20, 3) := by decide +kernel
theorem dX4_setRules_47 : decode cX4_setRules 47 = .ok (.aload_n 0, 1) := by decide +kernel
theorem dX4_setRules_48 : decode cX4_setRules 48 = .ok (.iload_n 2, 1) := by decide +kernel
theorem dX4_setRules_49 : decode cX4_setRules 49 = .ok (.putfield 65, 3) := by decide +kernel
theorem dX4_setRules_52 : decode cX4_setRules 52 = .ok (.aload_n 0, 1) := by decide +kernel
theorem dX4_setRules_53 : decode cX4_setRules 53 = .ok (.iload_n 3, 1) := by decide +kernel
theorem dX4_setRules_54 : decode cX4_setRules 54 = .ok (.putfield 68, 3) := by decide +kernel
theorem dX4_setRules_57 : decode cX4_setRules 57 = .ok (.return_, 1) := by decide +kernel
theorem dX4_put_0 : decode cX4_put 0 = .ok (.iload_n 1, 1) := by decide +kernel
theorem dX4_put_1 : decode cX4_put 1 = .ok (.invokestatic 62, 3) := by decide +kernel
theorem dX4_put_4 : decode cX4_put 4 = .ok (.ifCond .eq 24, 3) := by decide +kernel
theorem dX4_put_7 : decode cX4_put 7 = .ok (.iload_n 2, 1) := by decide +kernel
theorem dX4_put_8 : decode cX4_put 8 = .ok (.invokestatic 71, 3) := by decide +kernel
theorem dX4_put_11 : decode cX4_put 11 = .ok (.ifCond .eq 17, 3) := by decide +kernel
theorem dX4_put_14 : decode cX4_put 14 = .ok (.iload_n 3, 1) := by decide +kernel
theorem dX4_put_15 : decode cX4_put 15 = .ok (.iconst 1, 1) := by decide +kernel
theorem dX4_put_16 : decode cX4_put 16 = .ok (.bipush 40, 2) := by decide +kernel
theorem dX4_put_18 : decode cX4_put 18 = .ok (.invokestatic 41, 3) := by decide +kernel
theorem dX4_put_21 : decode cX4_put 21 = .ok (.ifCond .eq 7, 3) := by decide +kernel
theorem dX4_put_24 : decode cX4_put 24 = .ok (.iconst 1, 1) := by decide +kernel
theorem dX4_put_25 : decode cX4_put 25 = .ok (.goto 4, 3) := by decide +kernel
theorem dX4_put_28 : decode cX4_put 28 = .ok (.iconst 0, 1) := by decide +kernel
theorem dX4_put_29 : decode cX4_put 29 = .ok (.istore 4, 2) := by decide +kernel
theorem dX4_put_31 : decode cX4_put 31 = .ok (.aload_n 0, 1) := by decide +kernel
theorem dX4_put_32 : decode cX4_put 32 = .ok (.iload 4, 2) := by decide +kernel
theorem dX4_put_34 : decode cX4_put 34 = .ok (.iload 4, 2) := by decide +kernel
theorem dX4_put_36 : decode cX4_put 36 = .ok (.ifCond .eq 19, 3) := by decide +kernel
theorem dX4_put_39 : decode cX4_put 39 = .ok (.aload_n 0, 1) := by decide +kernel
theorem dX4_put_40 : decode cX4_put 40 = .ok (.iload_n 1, 1) := by decide +kernel
theorem dX4_put_41 : decode cX4_put 41 = .ok (.invokevirtual 74, 3) := by decide +kernel
theorem dX4_put_44 : decode cX4_put 44 = .ok (.iload_n 3, 1) := by decide +kernel
theorem dX4_put_45 : decode cX4_put 45 = .ok (.iadd, 1) := by decide +kernel
theorem dX4_put_46 : decode cX4_put 46 = .ok (.bipush 60, 2) := by decide +kernel
theorem dX4_put_48 : decode cX4_put 48 = .ok (.if_icmp .gt 7, 3) := by decide +kernel
theorem dX4_put_51 : decode cX4_put 51 = .ok (.iconst 1, 1) := by decide +kernel
theorem dX4_put_52 : decode cX4_put 52 = .ok (.goto 4, 3) := by decide +kernel
theorem dX4_put_55 : decode cX4_put 55 = .ok (.iconst 0, 1) := by decide +kernel
theorem dX4_put_56 : decode cX4_put 56 = .ok (.invokevirtual 59, 3) := by decide +kernel
theorem dX4_put_59 : decode cX4_put 59 = .ok (.ifCond .ne 5, 3) := by decide +kernel
theorem dX4_put_62 : decode cX4_put 62 = .ok (.iconst 0, 1) := by decide +kernel
theorem dX4_put_63 : decode cX4_put 63 = .ok (.ireturn, 1) := by decide +kernel
theorem dX4_put_64 : decode cX4_put 64 = .ok (.aload_n 0, 1) := by decide +kernel
theorem dX4_put_65 : decode cX4_put 65 = .ok (.getfield 23, 3) := by decide +kernel
theorem dX4_put_68 : decode cX4_put 68 = .ok (.iconst 3, 1) := by decide +kernel
theorem dX4_put_69 : decode cX4_put 69 = .ok (.iload_n 1, 1) := by decide +kernel
theorem dX4_put_70 : decode cX4_put 70 = .ok (.imul, 1) := by decide +kernel
theorem dX4_put_71 : decode cX4_put 71 = .ok (.iload_n 2, 1) := by decide +kernel
theorem dX4_put_72 : decode cX4_put 72 = .ok (.iadd, 1) := by decide +kernel
theorem dX4_put_73 : decode cX4_put 73 = .ok (.dup2, 1) := by decide +kernel
theorem dX4_put_74 : decode cX4_put 74 = .ok (.iaload, 1) := by decide +kernel
theorem dX4_put_75 : decode cX4_put 75 = .ok (.iload_n 3, 1) := by decide +kernel
theorem dX4_put_76 : decode cX4_put 76 = .ok (.iadd, 1) := by decide +kernel
theorem dX4_put_77 : decode cX4_put 77 = .ok (.iastore, 1) := by decide +kernel
theorem dX4_put_78 : decode cX4_put 78 = .ok (.aload_n 0, 1) := by decide +kernel
theorem dX4_put_79 : decode cX4_put 79 = .ok (.getfield 23, 3) := by decide +kernel
theorem dX4_put_82 : decode cX4_put 82 = .ok (.iconst 3, 1) := by decide +kernel
theorem dX4_put_83 : decode cX4_put 83 = .ok (.iload_n 1, 1) := by decide +kernel
theorem dX4_put_84 : decode cX4_put 84 = .ok (.imul, 1) := by decide +kernel
theorem dX4_put_85 : decode cX4_put 85 = .ok (.iload_n 2, 1) := by decide +kernel
theorem dX4_put_86 : decode cX4_put 86 = .ok (.iadd, 1) := by decide +kernel
theorem dX4_put_87 : decode cX4_put 87 = .ok (.iaload, 1) := by decide +kernel
theorem dX4_put_88 : decode cX4_put 88 = .ok (.ireturn, 1) := by decide +kernel
theorem dX4_waits_0 : decode cX4_waits 0 = .ok (.aload_n 0, 1) := by decide +kernel
theorem dX4_waits_1 : decode cX4_waits 1 = .ok (.getfield 29, 3) := by decide +kernel
theorem dX4_waits_4 : decode cX4_waits 4 = .ok (.iload_n 1, 1) := by decide +kernel
theorem dX4_waits_5 : decode cX4_waits 5 = .ok (.iaload, 1) := by decide +kernel
theorem dX4_waits_6 : decode cX4_waits 6 = .ok (.iconst (-1), 1) := by decide +kernel
theorem dX4_waits_7 : decode cX4_waits 7 = .ok (.if_icmp .ne 7, 3) := by decide +kernel
theorem dX4_waits_10 : decode cX4_waits 10 = .ok (.iconst 0, 1) := by decide +kernel
theorem dX4_waits_11 : decode cX4_waits 11 = .ok (.goto 19, 3) := by decide +kernel
theorem dX4_waits_14 : decode cX4_waits 14 = .ok (.aload_n 0, 1) := by decide +kernel
theorem dX4_waits_15 : decode cX4_waits 15 = .ok (.getfield 29, 3) := by decide +kernel
theorem dX4_waits_18 : decode cX4_waits 18 = .ok (.iload_n 1, 1) := by decide +kernel
theorem dX4_waits_19 : decode cX4_waits 19 = .ok (.iaload, 1) := by decide +kernel
theorem dX4_waits_20 : decode cX4_waits 20 = .ok (.aload_n 0, 1) := by decide +kernel
theorem dX4_waits_21 : decode cX4_waits 21 = .ok (.getfield 20, 3) := by decide +kernel
theorem dX4_waits_24 : decode cX4_waits 24 = .ok (.iadd, 1) := by decide +kernel
theorem dX4_waits_25 : decode cX4_waits 25 = .ok (.aload_n 0, 1) := by decide +kernel
theorem dX4_waits_26 : decode cX4_waits 26 = .ok (.getfield 49, 3) := by decide +kernel
theorem dX4_waits_29 : decode cX4_waits 29 = .ok (.isub, 1) := by decide +kernel
theorem dX4_waits_30 : decode cX4_waits 30 = .ok (.istore_n 2, 1) := by decide +kernel
theorem dX4_waits_31 : decode cX4_waits 31 = .ok (.iload_n 2, 1) := by decide +kernel
theorem dX4_waits_32 : decode cX4_waits 32 = .ok (.ifCond .le 7, 3) := by decide +kernel
theorem dX4_waits_35 : decode cX4_waits 35 = .ok (.iload_n 2, 1) := by decide +kernel
theorem dX4_waits_36 : decode cX4_waits 36 = .ok (.goto 4, 3) := by decide +kernel
theorem dX4_waits_39 : decode cX4_waits 39 = .ok (.iconst 0, 1) := by decide +kernel
theorem dX4_waits_40 : decode cX4_waits 40 = .ok (.ireturn, 1) := by decide +kernel
theorem dX4_markDown_0 : decode cX4_markDown 0 = .ok (.iload_n 1, 1) := by decide +kernel
theorem dX4_markDown_1 : decode cX4_markDown 1 = .ok (.invokestatic 62, 3) := by decide +kernel
theorem dX4_markDown_4 : decode cX4_markDown 4 = .ok (.ifCond .eq 14, 3) := by decide +kernel
theorem dX4_markDown_7 : decode cX4_markDown 7 = .ok (.iload_n 2, 1) := by decide +kernel
theorem dX4_markDown_8 : decode cX4_markDown 8 = .ok (.invokestatic 55, 3) := by decide +kernel
theorem dX4_markDown_11 : decode cX4_markDown 11 = .ok (.ifCond .eq 7, 3) := by decide +kernel
theorem dX4_markDown_14 : decode cX4_markDown 14 = .ok (.iconst 1, 1) := by decide +kernel
theorem dX4_markDown_15 : decode cX4_markDown 15 = .ok (.goto 4, 3) := by decide +kernel
theorem dX4_markDown_18 : decode cX4_markDown 18 = .ok (.iconst 0, 1) := by decide +kernel
theorem dX4_markDown_19 : decode cX4_markDown 19 = .ok (.istore_n 3, 1) := by decide +kernel
theorem dX4_markDown_20 : decode cX4_markDown 20 = .ok (.aload_n 0, 1) := by decide +kernel
theorem dX4_markDown_21 : decode cX4_markDown 21 = .ok (.iload_n 3, 1) := by decide +kernel
theorem dX4_markDown_22 : decode cX4_markDown 22 = .ok (.iload_n 3, 1) := by decide +kernel
theorem dX4_markDown_23 : decode cX4_markDown 23 = .ok (.ifCond .eq 36, 3) := by decide +kernel
theorem dX4_markDown_26 : decode cX4_markDown 26 = .ok (.aload_n 0, 1) := by decide +kernel
theorem dX4_markDown_27 : decode cX4_markDown 27 = .ok (.getfield 49, 3) := by decide +kernel
theorem dX4_markDown_30 : decode cX4_markDown 30 = .ok (.aload_n 0, 1) := by decide +kernel
theorem dX4_markDown_31 : decode cX4_markDown 31 = .ok (.getfield 7, 3) := by decide +kernel
theorem dX4_markDown_34 : decode cX4_markDown 34 = .ok (.if_icmp .ge 25, 3) := by decide +kernel
theorem dX4_markDown_37 : decode cX4_markDown 37 = .ok (.iload_n 2, 1) := by decide +kernel
theorem dX4_markDown_38 : decode cX4_markDown 38 = .ok (.aload_n 0, 1) := by decide +kernel
theorem dX4_markDown_39 : decode cX4_markDown 39 = .ok (.getfield 26, 3) := by decide +kernel
theorem dX4_markDown_42 : decode cX4_markDown 42 = .ok (.iload_n 1, 1) := by decide +kernel
theorem dX4_markDown_43 : decode cX4_markDown 43 = .ok (.iaload, 1) := by decide +kernel
theorem dX4_markDown_44 : decode cX4_markDown 44 = .ok (.if_icmp .le 15, 3) := by decide +kernel
theorem dX4_markDown_47 : decode cX4_markDown 47 = .ok (.aload_n 0, 1) := by decide +kernel
theorem dX4_markDown_48 : decode cX4_markDown 48 = .ok (.iload_n 1, 1) := by decide +kernel
theorem dX4_markDown_49 : decode cX4_markDown 49 = .ok (.invokevirtual 78, 3) := by decide +kernel
theorem dX4_markDown_52 : decode cX4_markDown 52 = .ok (.ifCond .ne 7, 3) := by decide +kernel
theorem dX4_markDown_55 : decode cX4_markDown 55 = .ok (.iconst 1, 1) := by decide +kernel
theorem dX4_markDown_56 : decode cX4_markDown 56 = .ok (.goto 4, 3) := by decide +kernel
theorem dX4_markDown_59 : decode cX4_markDown 59 = .ok (.iconst 0, 1) := by decide +kernel
theorem dX4_markDown_60 : decode cX4_markDown 60 = .ok (.invokevirtual 59, 3) := by decide +kernel
theorem dX4_markDown_63 : decode cX4_markDown 63 = .ok (.ifCond .ne 5, 3) := by decide +kernel
theorem dX4_markDown_66 : decode cX4_markDown 66 = .ok (.iconst 0, 1) := by decide +kernel
theorem dX4_markDown_67 : decode cX4_markDown 67 = .ok (.ireturn, 1) := by decide +kernel
theorem dX4_markDown_68 : decode cX4_markDown 68 = .ok (.aload_n 0, 1) := by decide +kernel
theorem dX4_markDown_69 : decode cX4_markDown 69 = .ok (.getfield 26, 3) := by decide +kernel
theorem dX4_markDown_72 : decode cX4_markDown 72 = .ok (.iload_n 1, 1) := by decide +kernel
theorem dX4_markDown_73 : decode cX4_markDown 73 = .ok (.iload_n 2, 1) := by decide +kernel
theorem dX4_markDown_74 : decode cX4_markDown 74 = .ok (.iastore, 1) := by decide +kernel
theorem dX4_markDown_75 : decode cX4_markDown 75 = .ok (.aload_n 0, 1) := by decide +kernel
theorem dX4_markDown_76 : decode cX4_markDown 76 = .ok (.getfield 29, 3) := by decide +kernel
theorem dX4_markDown_79 : decode cX4_markDown 79 = .ok (.iload_n 1, 1) := by decide +kernel
theorem dX4_markDown_80 : decode cX4_markDown 80 = .ok (.aload_n 0, 1) := by decide +kernel
theorem dX4_markDown_81 : decode cX4_markDown 81 = .ok (.getfield 49, 3) := by decide +kernel
theorem dX4_markDown_84 : decode cX4_markDown 84 = .ok (.iastore, 1) := by decide +kernel
theorem dX4_markDown_85 : decode cX4_markDown 85 = .ok (.aload_n 0, 1) := by decide +kernel
theorem dX4_markDown_86 : decode cX4_markDown 86 = .ok (.getfield 13, 3) := by decide +kernel
theorem dX4_markDown_89 : decode cX4_markDown 89 = .ok (.iload_n 2, 1) := by decide +kernel
theorem dX4_markDown_90 : decode cX4_markDown 90 = .ok (.iaload, 1) := by decide +kernel
theorem dX4_markDown_91 : decode cX4_markDown 91 = .ok (.ireturn, 1) := by decide +kernel
theorem dX4_move_0 : decode cX4_move 0 = .ok (.iload_n 1, 1) := by decide +kernel
theorem dX4_move_1 : decode cX4_move 1 = .ok (.invokestatic 62, 3) := by decide +kernel
theorem dX4_move_4 : decode cX4_move 4 = .ok (.ifCond .eq 37, 3) := by decide +kernel
theorem dX4_move_7 : decode cX4_move 7 = .ok (.iload_n 2, 1) := by decide +kernel
theorem dX4_move_8 : decode cX4_move 8 = .ok (.invokestatic 62, 3) := by decide +kernel
theorem dX4_move_11 : decode cX4_move 11 = .ok (.ifCond .eq 30, 3) := by decide +kernel
theorem dX4_move_14 : decode cX4_move 14 = .ok (.iload_n 3, 1) := by decide +kernel
theorem dX4_move_15 : decode cX4_move 15 = .ok (.invokestatic 71, 3) := by decide +kernel
theorem dX4_move_18 : decode cX4_move 18 = .ok (.ifCond .eq 23, 3) := by decide +kernel
theorem dX4_move_21 : decode cX4_move 21 = .ok (.iload 4, 2) := by decide +kernel
theorem dX4_move_23 : decode cX4_move 23 = .ok (.iconst 1, 1) := by decide +kernel
theorem dX4_move_24 : decode cX4_move 24 = .ok (.bipush 40, 2) := by decide +kernel
theorem dX4_move_26 : decode cX4_move 26 = .ok (.invokestatic 41, 3) := by decide +kernel
theorem dX4_move_29 : decode cX4_move 29 = .ok (.ifCond .eq 12, 3) := by decide +kernel
theorem dX4_move_32 : decode cX4_move 32 = .ok (.iload_n 1, 1) := by decide +kernel
theorem dX4_move_33 : decode cX4_move 33 = .ok (.iload_n 2, 1) := by decide +kernel
theorem dX4_move_34 : decode cX4_move 34 = .ok (.if_icmp .eq 7, 3) := by decide +kernel
theorem dX4_move_37 : decode cX4_move 37 = .ok (.iconst 1, 1) := by decide +kernel
theorem dX4_move_38 : decode cX4_move 38 = .ok (.goto 4, 3) := by decide +kernel
theorem dX4_move_41 : decode cX4_move 41 = .ok (.iconst 0, 1) := by decide +kernel
theorem dX4_move_42 : decode cX4_move 42 = .ok (.istore 5, 2) := by decide +kernel
theorem dX4_move_44 : decode cX4_move 44 = .ok (.aload_n 0, 1) := by decide +kernel
theorem dX4_move_45 : decode cX4_move 45 = .ok (.iload 5, 2) := by decide +kernel
theorem dX4_move_47 : decode cX4_move 47 = .ok (.iload 5, 2) := by decide +kernel
theorem dX4_move_49 : decode cX4_move 49 = .ok (.ifCond .eq 46, 3) := by decide +kernel
theorem dX4_move_52 : decode cX4_move 52 = .ok (.aload_n 0, 1) := by decide +kernel
theorem dX4_move_53 : decode cX4_move 53 = .ok (.getfield 49, 3) := by decide +kernel
theorem dX4_move_56 : decode cX4_move 56 = .ok (.aload_n 0, 1) := by decide +kernel
theorem dX4_move_57 : decode cX4_move 57 = .ok (.getfield 7, 3) := by decide +kernel
theorem dX4_move_60 : decode cX4_move 60 = .ok (.if_icmp .ge 35, 3) := by decide +kernel
theorem dX4_move_63 : decode cX4_move 63 = .ok (.aload_n 0, 1) := by decide +kernel
theorem dX4_move_64 : decode cX4_move 64 = .ok (.getfield 23, 3) := by decide +kernel
theorem dX4_move_67 : decode cX4_move 67 = .ok (.iconst 3, 1) := by decide +kernel
theorem dX4_move_68 : decode cX4_move 68 = .ok (.iload_n 1, 1) := by decide +kernel
theorem dX4_move_69 : decode cX4_move 69 = .ok (.imul, 1) := by decide +kernel
theorem dX4_move_70 : decode cX4_move 70 = .ok (.iload_n 3, 1) := by decide +kernel
theorem dX4_move_71 : decode cX4_move 71 = .ok (.iadd, 1) := by decide +kernel
theorem dX4_move_72 : decode cX4_move 72 = .ok (.iaload, 1) := by decide +kernel
theorem dX4_move_73 : decode cX4_move 73 = .ok (.iload 4, 2) := by decide +kernel
theorem dX4_move_75 : decode cX4_move 75 = .ok (.if_icmp .lt 20, 3) := by decide +kernel
theorem dX4_move_78 : decode cX4_move 78 = .ok (.aload_n 0, 1) := by decide +kernel
theorem dX4_move_79 : decode cX4_move 79 = .ok (.iload_n 2, 1) := by decide +kernel
theorem dX4_move_80 : decode cX4_move 80 = .ok (.invokevirtual 74, 3) := by decide +kernel
theorem dX4_move_83 : decode cX4_move 83 = .ok (.iload 4, 2) := by decide +kernel
theorem dX4_move_85 : decode cX4_move 85 = .ok (.iadd, 1) := by decide +kernel
theorem dX4_move_86 : decode cX4_move 86 = .ok (.bipush 60, 2) := by decide +kernel
theorem dX4_move_88 : decode cX4_move 88 = .ok (.if_icmp .gt 7, 3) := by decide +kernel
theorem dX4_move_91 : decode cX4_move 91 = .ok (.iconst 1, 1) := by decide +kernel
theorem dX4_move_92 : decode cX4_move 92 = .ok (.goto 4, 3) := by decide +kernel
theorem dX4_move_95 : decode cX4_move 95 = .ok (.iconst 0, 1) := by decide +kernel
theorem dX4_move_96 : decode cX4_move 96 = .ok (.invokevirtual 59, 3) := by decide +kernel
theorem dX4_move_99 : decode cX4_move 99 = .ok (.ifCond .ne 5, 3) := by decide +kernel
theorem dX4_move_102 : decode cX4_move 102 = .ok (.iconst 0, 1) := by decide +kernel
theorem dX4_move_103 : decode cX4_move 103 = .ok (.ireturn, 1) := by decide +kernel
theorem dX4_move_104 : decode cX4_move 104 = .ok (.aload_n 0, 1) := by decide +kernel
theorem dX4_move_105 : decode cX4_move 105 = .ok (.getfield 23, 3) := by decide +kernel
theorem dX4_move_108 : decode cX4_move 108 = .ok (.iconst 3, 1) := by decide +kernel
theorem dX4_move_109 : decode cX4_move 109 = .ok (.iload_n 1, 1) := by decide +kernel
theorem dX4_move_110 : decode cX4_move 110 = .ok (.imul, 1) := by decide +kernel
theorem dX4_move_111 : decode cX4_move 111 = .ok (.iload_n 3, 1) := by decide +kernel
theorem dX4_move_112 : decode cX4_move 112 = .ok (.iadd, 1) := by decide +kernel
theorem dX4_move_113 : decode cX4_move 113 = .ok (.dup2, 1) := by decide +kernel
theorem dX4_move_114 : decode cX4_move 114 = .ok (.iaload, 1) := by decide +kernel
theorem dX4_move_115 : decode cX4_move 115 = .ok (.iload 4, 2) := by decide +kernel
theorem dX4_move_117 : decode cX4_move 117 = .ok (.isub, 1) := by decide +kernel
theorem dX4_move_118 : decode cX4_move 118 = .ok (.iastore, 1) := by decide +kernel
theorem dX4_move_119 : decode cX4_move 119 = .ok (.aload_n 0, 1) := by decide +kernel
theorem dX4_move_120 : decode cX4_move 120 = .ok (.getfield 23, 3) := by decide +kernel
theorem dX4_move_123 : decode cX4_move 123 = .ok (.iconst 3, 1) := by decide +kernel
theorem dX4_move_124 : decode cX4_move 124 = .ok (.iload_n 2, 1) := by decide +kernel
theorem dX4_move_125 : decode cX4_move 125 = .ok (.imul, 1) := by decide +kernel
theorem dX4_move_126 : decode cX4_move 126 = .ok (.iload_n 3, 1) := by decide +kernel
theorem dX4_move_127 : decode cX4_move 127 = .ok (.iadd, 1) := by decide +kernel
theorem dX4_move_128 : decode cX4_move 128 = .ok (.dup2, 1) := by decide +kernel
theorem dX4_move_129 : decode cX4_move 129 = .ok (.iaload, 1) := by decide +kernel
theorem dX4_move_130 : decode cX4_move 130 = .ok (.iload 4, 2) := by decide +kernel
theorem dX4_move_132 : decode cX4_move 132 = .ok (.iadd, 1) := by decide +kernel
theorem dX4_move_133 : decode cX4_move 133 = .ok (.iastore, 1) := by decide +kernel
theorem dX4_move_134 : decode cX4_move 134 = .ok (.aload_n 0, 1) := by decide +kernel
theorem dX4_move_135 : decode cX4_move 135 = .ok (.dup, 1) := by decide +kernel
theorem dX4_move_136 : decode cX4_move 136 = .ok (.getfield 52, 3) := by decide +kernel
theorem dX4_move_139 : decode cX4_move 139 = .ok (.iload 4, 2) := by decide +kernel
theorem dX4_move_141 : decode cX4_move 141 = .ok (.aload_n 0, 1) := by decide +kernel
theorem dX4_move_142 : decode cX4_move 142 = .ok (.getfield 68, 3) := by decide +kernel
theorem dX4_move_145 : decode cX4_move 145 = .ok (.imul, 1) := by decide +kernel
theorem dX4_move_146 : decode cX4_move 146 = .ok (.isub, 1) := by decide +kernel
theorem dX4_move_147 : decode cX4_move 147 = .ok (.putfield 52, 3) := by decide +kernel
theorem dX4_move_150 : decode cX4_move 150 = .ok (.iload 4, 2) := by decide +kernel
theorem dX4_move_152 : decode cX4_move 152 = .ok (.aload_n 0, 1) := by decide +kernel
theorem dX4_move_153 : decode cX4_move 153 = .ok (.getfield 68, 3) := by decide +kernel
theorem dX4_move_156 : decode cX4_move 156 = .ok (.imul, 1) := by decide +kernel
theorem dX4_move_157 : decode cX4_move 157 = .ok (.ireturn, 1) := by decide +kernel
theorem dX4_sells_0 : decode cX4_sells 0 = .ok (.iconst 0, 1) := by decide +kernel
theorem dX4_sells_1 : decode cX4_sells 1 = .ok (.istore_n 3, 1) := by decide +kernel
theorem dX4_sells_2 : decode cX4_sells 2 = .ok (.iconst 0, 1) := by decide +kernel
theorem dX4_sells_3 : decode cX4_sells 3 = .ok (.istore 4, 2) := by decide +kernel
theorem dX4_sells_5 : decode cX4_sells 5 = .ok (.iload 4, 2) := by decide +kernel
theorem dX4_sells_7 : decode cX4_sells 7 = .ok (.iconst 3, 1) := by decide +kernel
theorem dX4_sells_8 : decode cX4_sells 8 = .ok (.if_icmp .ge 31, 3) := by decide +kernel
theorem dX4_sells_11 : decode cX4_sells 11 = .ok (.iload_n 3, 1) := by decide +kernel
theorem dX4_sells_12 : decode cX4_sells 12 = .ok (.aload_n 0, 1) := by decide +kernel
theorem dX4_sells_13 : decode cX4_sells 13 = .ok (.getfield 23, 3) := by decide +kernel
theorem dX4_sells_16 : decode cX4_sells 16 = .ok (.iconst 3, 1) := by decide +kernel
theorem dX4_sells_17 : decode cX4_sells 17 = .ok (.iload_n 1, 1) := by decide +kernel
theorem dX4_sells_18 : decode cX4_sells 18 = .ok (.imul, 1) := by decide +kernel
theorem dX4_sells_19 : decode cX4_sells 19 = .ok (.iload 4, 2) := by decide +kernel
theorem dX4_sells_21 : decode cX4_sells 21 = .ok (.iadd, 1) := by decide +kernel
theorem dX4_sells_22 : decode cX4_sells 22 = .ok (.iaload, 1) := by decide +kernel
theorem dX4_sells_23 : decode cX4_sells 23 = .ok (.ifCond .le 7, 3) := by decide +kernel
theorem dX4_sells_26 : decode cX4_sells 26 = .ok (.iconst 1, 1) := by decide +kernel
theorem dX4_sells_27 : decode cX4_sells 27 = .ok (.goto 4, 3) := by decide +kernel
theorem dX4_sells_30 : decode cX4_sells 30 = .ok (.iconst 0, 1) := by decide +kernel
theorem dX4_sells_31 : decode cX4_sells 31 = .ok (.iadd, 1) := by decide +kernel
theorem dX4_sells_32 : decode cX4_sells 32 = .ok (.istore_n 3, 1) := by decide +kernel
theorem dX4_sells_33 : decode cX4_sells 33 = .ok (.iinc 4 1, 3) := by decide +kernel
theorem dX4_sells_36 : decode cX4_sells 36 = .ok (.goto (-31), 3) := by decide +kernel
theorem dX4_sells_39 : decode cX4_sells 39 = .ok (.aload_n 0, 1) := by decide +kernel
theorem dX4_sells_40 : decode cX4_sells 40 = .ok (.getfield 17, 3) := by decide +kernel
theorem dX4_sells_43 : decode cX4_sells 43 = .ok (.iconst 5, 1) := by decide +kernel
theorem dX4_sells_44 : decode cX4_sells 44 = .ok (.iload_n 1, 1) := by decide +kernel
theorem dX4_sells_45 : decode cX4_sells 45 = .ok (.imul, 1) := by decide +kernel
theorem dX4_sells_46 : decode cX4_sells 46 = .ok (.iload_n 2, 1) := by decide +kernel
theorem dX4_sells_47 : decode cX4_sells 47 = .ok (.iadd, 1) := by decide +kernel
theorem dX4_sells_48 : decode cX4_sells 48 = .ok (.iaload, 1) := by decide +kernel
theorem dX4_sells_49 : decode cX4_sells 49 = .ok (.iload_n 3, 1) := by decide +kernel
theorem dX4_sells_50 : decode cX4_sells 50 = .ok (.imul, 1) := by decide +kernel
theorem dX4_sells_51 : decode cX4_sells 51 = .ok (.iconst 3, 1) := by decide +kernel
theorem dX4_sells_52 : decode cX4_sells 52 = .ok (.idiv, 1) := by decide +kernel
theorem dX4_sells_53 : decode cX4_sells 53 = .ok (.istore 4, 2) := by decide +kernel
theorem dX4_sells_55 : decode cX4_sells 55 = .ok (.iload 4, 2) := by decide +kernel
theorem dX4_sells_57 : decode cX4_sells 57 = .ok (.aload_n 0, 1) := by decide +kernel
theorem dX4_sells_58 : decode cX4_sells 58 = .ok (.iload_n 1, 1) := by decide +kernel
theorem dX4_sells_59 : decode cX4_sells 59 = .ok (.invokevirtual 74, 3) := by decide +kernel
theorem dX4_sells_62 : decode cX4_sells 62 = .ok (.if_icmp .ge 8, 3) := by decide +kernel
theorem dX4_sells_65 : decode cX4_sells 65 = .ok (.iload 4, 2) := by decide +kernel
theorem dX4_sells_67 : decode cX4_sells 67 = .ok (.goto 8, 3) := by decide +kernel
theorem dX4_sells_70 : decode cX4_sells 70 = .ok (.aload_n 0, 1) := by decide +kernel
theorem dX4_sells_71 : decode cX4_sells 71 = .ok (.iload_n 1, 1) := by decide +kernel
theorem dX4_sells_72 : decode cX4_sells 72 = .ok (.invokevirtual 74, 3) := by decide +kernel
theorem dX4_sells_75 : decode cX4_sells 75 = .ok (.ireturn, 1) := by decide +kernel
theorem dX4_run_0 : decode cX4_run 0 = .ok (.aload_n 0, 1) := by decide +kernel
theorem dX4_run_1 : decode cX4_run 1 = .ok (.aload_n 0, 1) := by decide +kernel
theorem dX4_run_2 : decode cX4_run 2 = .ok (.getfield 49, 3) := by decide +kernel
theorem dX4_run_5 : decode cX4_run 5 = .ok (.aload_n 0, 1) := by decide +kernel
theorem dX4_run_6 : decode cX4_run 6 = .ok (.getfield 7, 3) := by decide +kernel
theorem dX4_run_9 : decode cX4_run 9 = .ok (.if_icmp .ge 7, 3) := by decide +kernel
theorem dX4_run_12 : decode cX4_run 12 = .ok (.iconst 1, 1) := by decide +kernel
theorem dX4_run_13 : decode cX4_run 13 = .ok (.goto 4, 3) := by decide +kernel
theorem dX4_run_16 : decode cX4_run 16 = .ok (.iconst 0, 1) := by decide +kernel
theorem dX4_run_17 : decode cX4_run 17 = .ok (.invokevirtual 45, 3) := by decide +kernel
theorem dX4_run_20 : decode cX4_run 20 = .ok (.ifCond .ne 5, 3) := by decide +kernel
theorem dX4_run_23 : decode cX4_run 23 = .ok (.iconst 0, 1) := by decide +kernel
theorem dX4_run_24 : decode cX4_run 24 = .ok (.ireturn, 1) := by decide +kernel
theorem dX4_run_25 : decode cX4_run 25 = .ok (.iconst 0, 1) := by decide +kernel
theorem dX4_run_26 : decode cX4_run 26 = .ok (.istore_n 1, 1) := by decide +kernel
theorem dX4_run_27 : decode cX4_run 27 = .ok (.iconst 0, 1) := by decide +kernel
theorem dX4_run_28 : decode cX4_run 28 = .ok (.istore_n 2, 1) := by decide +kernel
theorem dX4_run_29 : decode cX4_run 29 = .ok (.iload_n 2, 1) := by decide +kernel
theorem dX4_run_30 : decode cX4_run 30 = .ok (.iconst 3, 1) := by decide +kernel
theorem dX4_run_31 : decode cX4_run 31 = .ok (.if_icmp .ge 142, 3) := by decide +kernel
theorem dX4_run_34 : decode cX4_run 34 = .ok (.aload_n 0, 1) := by decide +kernel
theorem dX4_run_35 : decode cX4_run 35 = .ok (.iload_n 2, 1) := by decide +kernel
theorem dX4_run_36 : decode cX4_run 36 = .ok (.aload_n 0, 1) := by decide +kernel
theorem dX4_run_37 : decode cX4_run 37 = .ok (.getfield 26, 3) := by decide +kernel
theorem dX4_run_40 : decode cX4_run 40 = .ok (.iload_n 2, 1) := by decide +kernel
theorem dX4_run_41 : decode cX4_run 41 = .ok (.iaload, 1) := by decide +kernel
theorem dX4_run_42 : decode cX4_run 42 = .ok (.invokevirtual 81, 3) := by decide +kernel
theorem dX4_run_45 : decode cX4_run 45 = .ok (.istore_n 3, 1) := by decide +kernel
theorem dX4_run_46 : decode cX4_run 46 = .ok (.iconst 0, 1) := by decide +kernel
theorem dX4_run_47 : decode cX4_run 47 = .ok (.istore 4, 2) := by decide +kernel
theorem dX4_run_49 : decode cX4_run 49 = .ok (.iload 4, 2) := by decide +kernel
theorem dX4_run_51 : decode cX4_run 51 = .ok (.iload_n 3, 1) := by decide +kernel
theorem dX4_run_52 : decode cX4_run 52 = .ok (.if_icmp .ge 89, 3) := by decide +kernel
theorem dX4_run_55 : decode cX4_run 55 = .ok (.iconst 3, 1) := by decide +kernel
theorem dX4_run_56 : decode cX4_run 56 = .ok (.iload_n 2, 1) := by decide +kernel
theorem dX4_run_57 : decode cX4_run 57 = .ok (.imul, 1) := by decide +kernel
theorem dX4_run_58 : decode cX4_run 58 = .ok (.istore 5, 2) := by decide +kernel
theorem dX4_run_60 : decode cX4_run 60 = .ok (.aload_n 0, 1) := by decide +kernel
theorem dX4_run_61 : decode cX4_run 61 = .ok (.getfield 23, 3) := by decide +kernel
theorem dX4_run_64 : decode cX4_run 64 = .ok (.iconst 3, 1) := by decide +kernel
theorem dX4_run_65 : decode cX4_run 65 = .ok (.iload_n 2, 1) := by decide +kernel
theorem dX4_run_66 : decode cX4_run 66 = .ok (.imul, 1) := by decide +kernel
theorem dX4_run_67 : decode cX4_run 67 = .ok (.iconst 1, 1) := by decide +kernel
theorem dX4_run_68 : decode cX4_run 68 = .ok (.iadd, 1) := by decide +kernel
theorem dX4_run_69 : decode cX4_run 69 = .ok (.iaload, 1) := by decide +kernel
theorem dX4_run_70 : decode cX4_run 70 = .ok (.aload_n 0, 1) := by decide +kernel
theorem dX4_run_71 : decode cX4_run 71 = .ok (.getfield 23, 3) := by decide +kernel
theorem dX4_run_74 : decode cX4_run 74 = .ok (.iload 5, 2) := by decide +kernel
theorem dX4_run_76 : decode cX4_run 76 = .ok (.iaload, 1) := by decide +kernel
theorem dX4_run_77 : decode cX4_run 77 = .ok (.if_icmp .le 11, 3) := by decide +kernel
theorem dX4_run_80 : decode cX4_run 80 = .ok (.iconst 3, 1) := by decide +kernel
theorem dX4_run_81 : decode cX4_run 81 = .ok (.iload_n 2, 1) := by decide +kernel
theorem dX4_run_82 : decode cX4_run 82 = .ok (.imul, 1) := by decide +kernel
theorem dX4_run_83 : decode cX4_run 83 = .ok (.iconst 1, 1) := by decide +kernel
theorem dX4_run_84 : decode cX4_run 84 = .ok (.iadd, 1) := by decide +kernel
theorem dX4_run_85 : decode cX4_run 85 = .ok (.goto 5, 3) := by decide +kernel
theorem dX4_run_88 : decode cX4_run 88 = .ok (.iload 5, 2) := by decide +kernel
theorem dX4_run_90 : decode cX4_run 90 = .ok (.istore 5, 2) := by decide +kernel
theorem dX4_run_92 : decode cX4_run 92 = .ok (.aload_n 0, 1) := by decide +kernel
theorem dX4_run_93 : decode cX4_run 93 = .ok (.getfield 23, 3) := by decide +kernel
theorem dX4_run_96 : decode cX4_run 96 = .ok (.iconst 3, 1) := by decide +kernel
theorem dX4_run_97 : decode cX4_run 97 = .ok (.iload_n 2, 1) := by decide +kernel
theorem dX4_run_98 : decode cX4_run 98 = .ok (.imul, 1) := by decide +kernel
theorem dX4_run_99 : decode cX4_run 99 = .ok (.iconst 2, 1) := by decide +kernel
theorem dX4_run_100 : decode cX4_run 100 = .ok (.iadd, 1) := by decide +kernel
theorem dX4_run_101 : decode cX4_run 101 = .ok (.iaload, 1) := by decide +kernel
theorem dX4_run_102 : decode cX4_run 102 = .ok (.aload_n 0, 1) := by decide +kernel
theorem dX4_run_103 : decode cX4_run 103 = .ok (.getfield 23, 3) := by decide +kernel
theorem dX4_run_106 : decode cX4_run 106 = .ok (.iload 5, 2) := by decide +kernel
theorem dX4_run_108 : decode cX4_run 108 = .ok (.iaload, 1) := by decide +kernel
theorem dX4_run_109 : decode cX4_run 109 = .ok (.if_icmp .le 11, 3) := by decide +kernel
theorem dX4_run_112 : decode cX4_run 112 = .ok (.iconst 3, 1) := by decide +kernel
theorem dX4_run_113 : decode cX4_run 113 = .ok (.iload_n 2, 1) := by decide +kernel
theorem dX4_run_114 : decode cX4_run 114 = .ok (.imul, 1) := by decide +kernel
theorem dX4_run_115 : decode cX4_run 115 = .ok (.iconst 2, 1) := by decide +kernel
theorem dX4_run_116 : decode cX4_run 116 = .ok (.iadd, 1) := by decide +kernel
theorem dX4_run_117 : decode cX4_run 117 = .ok (.goto 5, 3) := by decide +kernel
theorem dX4_run_120 : decode cX4_run 120 = .ok (.iload 5, 2) := by decide +kernel
theorem dX4_run_122 : decode cX4_run 122 = .ok (.istore 5, 2) := by decide +kernel
theorem dX4_run_124 : decode cX4_run 124 = .ok (.aload_n 0, 1) := by decide +kernel
theorem dX4_run_125 : decode cX4_run 125 = .ok (.getfield 23, 3) := by decide +kernel
theorem dX4_run_128 : decode cX4_run 128 = .ok (.iload 5, 2) := by decide +kernel
theorem dX4_run_130 : decode cX4_run 130 = .ok (.dup2, 1) := by decide +kernel
theorem dX4_run_131 : decode cX4_run 131 = .ok (.iaload, 1) := by decide +kernel
theorem dX4_run_132 : decode cX4_run 132 = .ok (.iconst 1, 1) := by decide +kernel
theorem dX4_run_133 : decode cX4_run 133 = .ok (.isub, 1) := by decide +kernel
theorem dX4_run_134 : decode cX4_run 134 = .ok (.iastore, 1) := by decide +kernel
theorem dX4_run_135 : decode cX4_run 135 = .ok (.iinc 4 1, 3) := by decide +kernel
theorem dX4_run_138 : decode cX4_run 138 = .ok (.goto (-89), 3) := by decide +kernel
theorem dX4_run_141 : decode cX4_run 141 = .ok (.aload_n 0, 1) := by decide +kernel
theorem dX4_run_142 : decode cX4_run 142 = .ok (.getfield 32, 3) := by decide +kernel
theorem dX4_run_145 : decode cX4_run 145 = .ok (.iload_n 2, 1) := by decide +kernel
theorem dX4_run_146 : decode cX4_run 146 = .ok (.dup2, 1) := by decide +kernel
theorem dX4_run_147 : decode cX4_run 147 = .ok (.iaload, 1) := by decide +kernel
theorem dX4_run_148 : decode cX4_run 148 = .ok (.iload_n 3, 1) := by decide +kernel
theorem dX4_run_149 : decode cX4_run 149 = .ok (.iadd, 1) := by decide +kernel
theorem dX4_run_150 : decode cX4_run 150 = .ok (.iastore, 1) := by decide +kernel
theorem dX4_run_151 : decode cX4_run 151 = .ok (.iload_n 1, 1) := by decide +kernel
theorem dX4_run_152 : decode cX4_run 152 = .ok (.iload_n 3, 1) := by decide +kernel
theorem dX4_run_153 : decode cX4_run 153 = .ok (.aload_n 0, 1) := by decide +kernel
theorem dX4_run_154 : decode cX4_run 154 = .ok (.getfield 13, 3) := by decide +kernel
theorem dX4_run_157 : decode cX4_run 157 = .ok (.aload_n 0, 1) := by decide +kernel
theorem dX4_run_158 : decode cX4_run 158 = .ok (.getfield 26, 3) := by decide +kernel
theorem dX4_run_161 : decode cX4_run 161 = .ok (.iload_n 2, 1) := by decide +kernel
theorem dX4_run_162 : decode cX4_run 162 = .ok (.iaload, 1) := by decide +kernel
theorem dX4_run_163 : decode cX4_run 163 = .ok (.iaload, 1) := by decide +kernel
theorem dX4_run_164 : decode cX4_run 164 = .ok (.imul, 1) := by decide +kernel
theorem dX4_run_165 : decode cX4_run 165 = .ok (.iadd, 1) := by decide +kernel
theorem dX4_run_166 : decode cX4_run 166 = .ok (.istore_n 1, 1) := by decide +kernel
theorem dX4_run_167 : decode cX4_run 167 = .ok (.iinc 2 1, 3) := by decide +kernel
theorem dX4_run_170 : decode cX4_run 170 = .ok (.goto (-141), 3) := by decide +kernel
theorem dX4_run_173 : decode cX4_run 173 = .ok (.aload_n 0, 1) := by decide +kernel
theorem dX4_run_174 : decode cX4_run 174 = .ok (.dup, 1) := by decide +kernel
theorem dX4_run_175 : decode cX4_run 175 = .ok (.getfield 52, 3) := by decide +kernel
theorem dX4_run_178 : decode cX4_run 178 = .ok (.iload_n 1, 1) := by decide +kernel
theorem dX4_run_179 : decode cX4_run 179 = .ok (.iadd, 1) := by decide +kernel
theorem dX4_run_180 : decode cX4_run 180 = .ok (.putfield 52, 3) := by decide +kernel
theorem dX4_run_183 : decode cX4_run 183 = .ok (.aload_n 0, 1) := by decide +kernel
theorem dX4_run_184 : decode cX4_run 184 = .ok (.dup, 1) := by decide +kernel
theorem dX4_run_185 : decode cX4_run 185 = .ok (.getfield 49, 3) := by decide +kernel
theorem dX4_run_188 : decode cX4_run 188 = .ok (.iconst 1, 1) := by decide +kernel
theorem dX4_run_189 : decode cX4_run 189 = .ok (.iadd, 1) := by decide +kernel
theorem dX4_run_190 : decode cX4_run 190 = .ok (.putfield 49, 3) := by decide +kernel
theorem dX4_run_193 : decode cX4_run 193 = .ok (.iload_n 1, 1) := by decide +kernel
theorem dX4_run_194 : decode cX4_run 194 = .ok (.ireturn, 1) := by decide +kernel
theorem dX4_week_0 : decode cX4_week 0 = .ok (.aload_n 0, 1) := by decide +kernel
theorem dX4_week_1 : decode cX4_week 1 = .ok (.aload_n 0, 1) := by decide +kernel
theorem dX4_week_2 : decode cX4_week 2 = .ok (.getfield 49, 3) := by decide +kernel
theorem dX4_week_5 : decode cX4_week 5 = .ok (.invokevirtual 85, 3) := by decide +kernel
theorem dX4_week_8 : decode cX4_week 8 = .ok (.ireturn, 1) := by decide +kernel
theorem dX4_stock_0 : decode cX4_stock 0 = .ok (.aload_n 0, 1) := by decide +kernel
theorem dX4_stock_1 : decode cX4_stock 1 = .ok (.iload_n 1, 1) := by decide +kernel
theorem dX4_stock_2 : decode cX4_stock 2 = .ok (.invokestatic 62, 3) := by decide +kernel
theorem dX4_stock_5 : decode cX4_stock 5 = .ok (.ifCond .eq 14, 3) := by decide +kernel
theorem dX4_stock_8 : decode cX4_stock 8 = .ok (.iload_n 2, 1) := by decide +kernel
theorem dX4_stock_9 : decode cX4_stock 9 = .ok (.invokestatic 71, 3) := by decide +kernel
theorem dX4_stock_12 : decode cX4_stock 12 = .ok (.ifCond .eq 7, 3) := by decide +kernel
theorem dX4_stock_15 : decode cX4_stock 15 = .ok (.iconst 1, 1) := by decide +kernel
theorem dX4_stock_16 : decode cX4_stock 16 = .ok (.goto 4, 3) := by decide +kernel
theorem dX4_stock_19 : decode cX4_stock 19 = .ok (.iconst 0, 1) := by decide +kernel
theorem dX4_stock_20 : decode cX4_stock 20 = .ok (.invokevirtual 45, 3) := by decide +kernel
theorem dX4_stock_23 : decode cX4_stock 23 = .ok (.ifCond .eq 16, 3) := by decide +kernel
theorem dX4_stock_26 : decode cX4_stock 26 = .ok (.aload_n 0, 1) := by decide +kernel
theorem dX4_stock_27 : decode cX4_stock 27 = .ok (.getfield 23, 3) := by decide +kernel
theorem dX4_stock_30 : decode cX4_stock 30 = .ok (.iconst 3, 1) := by decide +kernel
theorem dX4_stock_31 : decode cX4_stock 31 = .ok (.iload_n 1, 1) := by decide +kernel
theorem dX4_stock_32 : decode cX4_stock 32 = .ok (.imul, 1) := by decide +kernel
theorem dX4_stock_33 : decode cX4_stock 33 = .ok (.iload_n 2, 1) := by decide +kernel
theorem dX4_stock_34 : decode cX4_stock 34 = .ok (.iadd, 1) := by decide +kernel
theorem dX4_stock_35 : decode cX4_stock 35 = .ok (.iaload, 1) := by decide +kernel
theorem dX4_stock_36 : decode cX4_stock 36 = .ok (.goto 4, 3) := by decide +kernel
theorem dX4_stock_39 : decode cX4_stock 39 = .ok (.iconst 0, 1) := by decide +kernel
theorem dX4_stock_40 : decode cX4_stock 40 = .ok (.ireturn, 1) := by decide +kernel
theorem dX4_step_0 : decode cX4_step 0 = .ok (.aload_n 0, 1) := by decide +kernel
theorem dX4_step_1 : decode cX4_step 1 = .ok (.iload_n 1, 1) := by decide +kernel
theorem dX4_step_2 : decode cX4_step 2 = .ok (.invokestatic 62, 3) := by decide +kernel
theorem dX4_step_5 : decode cX4_step 5 = .ok (.invokevirtual 45, 3) := by decide +kernel
theorem dX4_step_8 : decode cX4_step 8 = .ok (.ifCond .eq 12, 3) := by decide +kernel
theorem dX4_step_11 : decode cX4_step 11 = .ok (.aload_n 0, 1) := by decide +kernel
theorem dX4_step_12 : decode cX4_step 12 = .ok (.getfield 26, 3) := by decide +kernel
theorem dX4_step_15 : decode cX4_step 15 = .ok (.iload_n 1, 1) := by decide +kernel
theorem dX4_step_16 : decode cX4_step 16 = .ok (.iaload, 1) := by decide +kernel
theorem dX4_step_17 : decode cX4_step 17 = .ok (.goto 4, 3) := by decide +kernel
theorem dX4_step_20 : decode cX4_step 20 = .ok (.iconst 0, 1) := by decide +kernel
theorem dX4_step_21 : decode cX4_step 21 = .ok (.ireturn, 1) := by decide +kernel
theorem dX4_weeksToWait_0 : decode cX4_weeksToWait 0 = .ok (.aload_n 0, 1) := by decide +kernel
theorem dX4_weeksToWait_1 : decode cX4_weeksToWait 1 = .ok (.iload_n 1, 1) := by decide +kernel
theorem dX4_weeksToWait_2 : decode cX4_weeksToWait 2 = .ok (.invokestatic 62, 3) := by decide +kernel
theorem dX4_weeksToWait_5 : decode cX4_weeksToWait 5 = .ok (.invokevirtual 45, 3) := by decide +kernel
theorem dX4_weeksToWait_8 : decode cX4_weeksToWait 8 = .ok (.ifCond .eq 11, 3) := by decide +kernel
theorem dX4_weeksToWait_11 : decode cX4_weeksToWait 11 = .ok (.aload_n 0, 1) := by decide +kernel
theorem dX4_weeksToWait_12 : decode cX4_weeksToWait 12 = .ok (.iload_n 1, 1) := by decide +kernel
theorem dX4_weeksToWait_13 : decode cX4_weeksToWait 13 = .ok (.invokevirtual 78, 3) := by decide +kernel
theorem dX4_weeksToWait_16 : decode cX4_weeksToWait 16 = .ok (.goto 4, 3) := by decide +kernel
theorem dX4_weeksToWait_19 : decode cX4_weeksToWait 19 = .ok (.iconst 0, 1) := by decide +kernel
theorem dX4_weeksToWait_20 : decode cX4_weeksToWait 20 = .ok (.ireturn, 1) := by decide +kernel
theorem dX4_sold_0 : decode cX4_sold 0 = .ok (.aload_n 0, 1) := by decide +kernel
theorem dX4_sold_1 : decode cX4_sold 1 = .ok (.iload_n 1, 1) := by decide +kernel
theorem dX4_sold_2 : decode cX4_sold 2 = .ok (.invokestatic 62, 3) := by decide +kernel
theorem dX4_sold_5 : decode cX4_sold 5 = .ok (.invokevirtual 45, 3) := by decide +kernel
theorem dX4_sold_8 : decode cX4_sold 8 = .ok (.ifCond .eq 12, 3) := by decide +kernel
theorem dX4_sold_11 : decode cX4_sold 11 = .ok (.aload_n 0, 1) := by decide +kernel
theorem dX4_sold_12 : decode cX4_sold 12 = .ok (.getfield 32, 3) := by decide +kernel
theorem dX4_sold_15 : decode cX4_sold 15 = .ok (.iload_n 1, 1) := by decide +kernel
theorem dX4_sold_16 : decode cX4_sold 16 = .ok (.iaload, 1) := by decide +kernel
theorem dX4_sold_17 : decode cX4_sold 17 = .ok (.goto 4, 3) := by decide +kernel
theorem dX4_sold_20 : decode cX4_sold 20 = .ok (.iconst 0, 1) := by decide +kernel
theorem dX4_sold_21 : decode cX4_sold 21 = .ok (.ireturn, 1) := by decide +kernel
theorem dX4_taken_0 : decode cX4_taken 0 = .ok (.aload_n 0, 1) := by decide +kernel
theorem dX4_taken_1 : decode cX4_taken 1 = .ok (.aload_n 0, 1) := by decide +kernel
theorem dX4_taken_2 : decode cX4_taken 2 = .ok (.getfield 52, 3) := by decide +kernel
theorem dX4_taken_5 : decode cX4_taken 5 = .ok (.invokevirtual 85, 3) := by decide +kernel
theorem dX4_taken_8 : decode cX4_taken 8 = .ok (.ireturn, 1) := by decide +kernel
theorem dX4_wouldSell_0 : decode cX4_wouldSell 0 = .ok (.aload_n 0, 1) := by decide +kernel
theorem dX4_wouldSell_1 : decode cX4_wouldSell 1 = .ok (.iload_n 1, 1) := by decide +kernel
theorem dX4_wouldSell_2 : decode cX4_wouldSell 2 = .ok (.invokestatic 62, 3) := by decide +kernel
theorem dX4_wouldSell_5 : decode cX4_wouldSell 5 = .ok (.ifCond .eq 14, 3) := by decide +kernel
theorem dX4_wouldSell_8 : decode cX4_wouldSell 8 = .ok (.iload_n 2, 1) := by decide +kernel
theorem dX4_wouldSell_9 : decode cX4_wouldSell 9 = .ok (.invokestatic 55, 3) := by decide +kernel
theorem dX4_wouldSell_12 : decode cX4_wouldSell 12 = .ok (.ifCond .eq 7, 3) := by decide +kernel
theorem dX4_wouldSell_15 : decode cX4_wouldSell 15 = .ok (.iconst 1, 1) := by decide +kernel
theorem dX4_wouldSell_16 : decode cX4_wouldSell 16 = .ok (.goto 4, 3) := by decide +kernel
theorem dX4_wouldSell_19 : decode cX4_wouldSell 19 = .ok (.iconst 0, 1) := by decide +kernel
theorem dX4_wouldSell_20 : decode cX4_wouldSell 20 = .ok (.invokevirtual 45, 3) := by decide +kernel
theorem dX4_wouldSell_23 : decode cX4_wouldSell 23 = .ok (.ifCond .eq 12, 3) := by decide +kernel
theorem dX4_wouldSell_26 : decode cX4_wouldSell 26 = .ok (.aload_n 0, 1) := by decide +kernel
theorem dX4_wouldSell_27 : decode cX4_wouldSell 27 = .ok (.iload_n 1, 1) := by decide +kernel
theorem dX4_wouldSell_28 : decode cX4_wouldSell 28 = .ok (.iload_n 2, 1) := by decide +kernel
theorem dX4_wouldSell_29 : decode cX4_wouldSell 29 = .ok (.invokevirtual 81, 3) := by decide +kernel
theorem dX4_wouldSell_32 : decode cX4_wouldSell 32 = .ok (.goto 4, 3) := by decide +kernel
theorem dX4_wouldSell_35 : decode cX4_wouldSell 35 = .ok (.iconst 0, 1) := by decide +kernel
theorem dX4_wouldSell_36 : decode cX4_wouldSell 36 = .ok (.ireturn, 1) := by decide +kernel
theorem dX4_at_0 : decode cX4_at 0 = .ok (.sipush 1525, 3) := by decide +kernel
theorem dX4_at_3 : decode cX4_at 3 = .ok (.iload_n 0, 1) := by decide +kernel
theorem dX4_at_4 : decode cX4_at 4 = .ok (.imul, 1) := by decide +kernel
theorem dX4_at_5 : decode cX4_at 5 = .ok (.iconst 5, 1) := by decide +kernel
theorem dX4_at_6 : decode cX4_at 6 = .ok (.iload_n 1, 1) := by decide +kernel
theorem dX4_at_7 : decode cX4_at 7 = .ok (.imul, 1) := by decide +kernel
theorem dX4_at_8 : decode cX4_at 8 = .ok (.iload_n 2, 1) := by decide +kernel
theorem dX4_at_9 : decode cX4_at 9 = .ok (.iadd, 1) := by decide +kernel
theorem dX4_at_10 : decode cX4_at 10 = .ok (.bipush 61, 2) := by decide +kernel
theorem dX4_at_12 : decode cX4_at 12 = .ok (.imul, 1) := by decide +kernel
theorem dX4_at_13 : decode cX4_at 13 = .ok (.iadd, 1) := by decide +kernel
theorem dX4_at_14 : decode cX4_at 14 = .ok (.iload_n 3, 1) := by decide +kernel
theorem dX4_at_15 : decode cX4_at 15 = .ok (.iadd, 1) := by decide +kernel
theorem dX4_at_16 : decode cX4_at 16 = .ok (.ireturn, 1) := by decide +kernel
theorem dX4_worthOf_0 : decode cX4_worthOf 0 = .ok (.iload 6, 2) := by decide +kernel
theorem dX4_worthOf_2 : decode cX4_worthOf 2 = .ok (.iload_n 3, 1) := by decide +kernel
theorem dX4_worthOf_3 : decode cX4_worthOf 3 = .ok (.if_icmp .le 10, 3) := by decide +kernel
theorem dX4_worthOf_6 : decode cX4_worthOf 6 = .ok (.iload 4, 2) := by decide +kernel
theorem dX4_worthOf_8 : decode cX4_worthOf 8 = .ok (.ifCond .le 5, 3) := by decide +kernel
theorem dX4_worthOf_11 : decode cX4_worthOf 11 = .ok (.iconst (-1), 1) := by decide +kernel
theorem dX4_worthOf_12 : decode cX4_worthOf 12 = .ok (.ireturn, 1) := by decide +kernel
theorem dX4_worthOf_13 : decode cX4_worthOf 13 = .ok (.aload_n 0, 1) := by decide +kernel
theorem dX4_worthOf_14 : decode cX4_worthOf 14 = .ok (.getfield 17, 3) := by decide +kernel
theorem dX4_worthOf_17 : decode cX4_worthOf 17 = .ok (.iconst 5, 1) := by decide +kernel
theorem dX4_worthOf_18 : decode cX4_worthOf 18 = .ok (.iload_n 1, 1) := by decide +kernel
theorem dX4_worthOf_19 : decode cX4_worthOf 19 = .ok (.imul, 1) := by decide +kernel
theorem dX4_worthOf_20 : decode cX4_worthOf 20 = .ok (.iload 6, 2) := by decide +kernel
theorem dX4_worthOf_22 : decode cX4_worthOf 22 = .ok (.iadd, 1) := by decide +kernel
theorem dX4_worthOf_23 : decode cX4_worthOf 23 = .ok (.iaload, 1) := by decide +kernel
theorem dX4_worthOf_24 : decode cX4_worthOf 24 = .ok (.iload 5, 2) := by decide +kernel
theorem dX4_worthOf_26 : decode cX4_worthOf 26 = .ok (.if_icmp .ge 17, 3) := by decide +kernel
theorem dX4_worthOf_29 : decode cX4_worthOf 29 = .ok (.aload_n 0, 1) := by decide +kernel
theorem dX4_worthOf_30 : decode cX4_worthOf 30 = .ok (.getfield 17, 3) := by decide +kernel
theorem dX4_worthOf_33 : decode cX4_worthOf 33 = .ok (.iconst 5, 1) := by decide +kernel
theorem dX4_worthOf_34 : decode cX4_worthOf 34 = .ok (.iload_n 1, 1) := by decide +kernel
theorem dX4_worthOf_35 : decode cX4_worthOf 35 = .ok (.imul, 1) := by decide +kernel
theorem dX4_worthOf_36 : decode cX4_worthOf 36 = .ok (.iload 6, 2) := by decide +kernel
theorem dX4_worthOf_38 : decode cX4_worthOf 38 = .ok (.iadd, 1) := by decide +kernel
theorem dX4_worthOf_39 : decode cX4_worthOf 39 = .ok (.iaload, 1) := by decide +kernel
theorem dX4_worthOf_40 : decode cX4_worthOf 40 = .ok (.goto 5, 3) := by decide +kernel
theorem dX4_worthOf_43 : decode cX4_worthOf 43 = .ok (.iload 5, 2) := by decide +kernel
theorem dX4_worthOf_45 : decode cX4_worthOf 45 = .ok (.istore 7, 2) := by decide +kernel
theorem dX4_worthOf_47 : decode cX4_worthOf 47 = .ok (.iload 6, 2) := by decide +kernel
theorem dX4_worthOf_49 : decode cX4_worthOf 49 = .ok (.iload_n 3, 1) := by decide +kernel
theorem dX4_worthOf_50 : decode cX4_worthOf 50 = .ok (.if_icmp .le 12, 3) := by decide +kernel
theorem dX4_worthOf_53 : decode cX4_worthOf 53 = .ok (.aload_n 0, 1) := by decide +kernel
theorem dX4_worthOf_54 : decode cX4_worthOf 54 = .ok (.getfield 20, 3) := by decide +kernel
theorem dX4_worthOf_57 : decode cX4_worthOf 57 = .ok (.iconst 1, 1) := by decide +kernel
theorem dX4_worthOf_58 : decode cX4_worthOf 58 = .ok (.isub, 1) := by decide +kernel
theorem dX4_worthOf_59 : decode cX4_worthOf 59 = .ok (.goto 16, 3) := by decide +kernel
theorem dX4_worthOf_62 : decode cX4_worthOf 62 = .ok (.iload 4, 2) := by decide +kernel
theorem dX4_worthOf_64 : decode cX4_worthOf 64 = .ok (.ifCond .le 10, 3) := by decide +kernel
theorem dX4_worthOf_67 : decode cX4_worthOf 67 = .ok (.iload 4, 2) := by decide +kernel
theorem dX4_worthOf_69 : decode cX4_worthOf 69 = .ok (.iconst 1, 1) := by decide +kernel
theorem dX4_worthOf_70 : decode cX4_worthOf 70 = .ok (.isub, 1) := by decide +kernel
theorem dX4_worthOf_71 : decode cX4_worthOf 71 = .ok (.goto 4, 3) := by decide +kernel
theorem dX4_worthOf_74 : decode cX4_worthOf 74 = .ok (.iconst 0, 1) := by decide +kernel
theorem dX4_worthOf_75 : decode cX4_worthOf 75 = .ok (.istore 8, 2) := by decide +kernel
theorem dX4_worthOf_77 : decode cX4_worthOf 77 = .ok (.aload_n 0, 1) := by decide +kernel
theorem dX4_worthOf_78 : decode cX4_worthOf 78 = .ok (.getfield 35, 3) := by decide +kernel
theorem dX4_worthOf_81 : decode cX4_worthOf 81 = .ok (.iload_n 2, 1) := by decide +kernel
theorem dX4_worthOf_82 : decode cX4_worthOf 82 = .ok (.iconst 1, 1) := by decide +kernel
theorem dX4_worthOf_83 : decode cX4_worthOf 83 = .ok (.iadd, 1) := by decide +kernel
theorem dX4_worthOf_84 : decode cX4_worthOf 84 = .ok (.iload 6, 2) := by decide +kernel
theorem dX4_worthOf_86 : decode cX4_worthOf 86 = .ok (.iload 8, 2) := by decide +kernel
theorem dX4_worthOf_88 : decode cX4_worthOf 88 = .ok (.iload 5, 2) := by decide +kernel
theorem dX4_worthOf_90 : decode cX4_worthOf 90 = .ok (.iload 7, 2) := by decide +kernel
theorem dX4_worthOf_92 : decode cX4_worthOf 92 = .ok (.isub, 1) := by decide +kernel
theorem dX4_worthOf_93 : decode cX4_worthOf 93 = .ok (.invokestatic 88, 3) := by decide +kernel
theorem dX4_worthOf_96 : decode cX4_worthOf 96 = .ok (.iaload, 1) := by decide +kernel
theorem dX4_worthOf_97 : decode cX4_worthOf 97 = .ok (.istore 9, 2) := by decide +kernel
theorem dX4_worthOf_99 : decode cX4_worthOf 99 = .ok (.iload 9, 2) := by decide +kernel
theorem dX4_worthOf_101 : decode cX4_worthOf 101 = .ok (.iconst (-1), 1) := by decide +kernel
theorem dX4_worthOf_102 : decode cX4_worthOf 102 = .ok (.if_icmp .ne 7, 3) := by decide +kernel
theorem dX4_worthOf_105 : decode cX4_worthOf 105 = .ok (.iconst (-1), 1) := by decide +kernel
theorem dX4_worthOf_106 : decode cX4_worthOf 106 = .ok (.goto 16, 3) := by decide +kernel
theorem dX4_worthOf_109 : decode cX4_worthOf 109 = .ok (.iload 9, 2) := by decide +kernel
theorem dX4_worthOf_111 : decode cX4_worthOf 111 = .ok (.iload 7, 2) := by decide +kernel
theorem dX4_worthOf_113 : decode cX4_worthOf 113 = .ok (.aload_n 0, 1) := by decide +kernel
theorem dX4_worthOf_114 : decode cX4_worthOf 114 = .ok (.getfield 13, 3) := by decide +kernel
theorem dX4_worthOf_117 : decode cX4_worthOf 117 = .ok (.iload 6, 2) := by decide +kernel
theorem dX4_worthOf_119 : decode cX4_worthOf 119 = .ok (.iaload, 1) := by decide +kernel
theorem dX4_worthOf_120 : decode cX4_worthOf 120 = .ok (.imul, 1) := by decide +kernel
theorem dX4_worthOf_121 : decode cX4_worthOf 121 = .ok (.iadd, 1) := by decide +kernel
theorem dX4_worthOf_122 : decode cX4_worthOf 122 = .ok (.ireturn, 1) := by decide +kernel
theorem dX4_finds_0 : decode cX4_finds 0 = .ok (.iconst 0, 1) := by decide +kernel
theorem dX4_finds_1 : decode cX4_finds 1 = .ok (.istore_n 3, 1) := by decide +kernel
theorem dX4_finds_2 : decode cX4_finds 2 = .ok (.iload_n 3, 1) := by decide +kernel
theorem dX4_finds_3 : decode cX4_finds 3 = .ok (.sipush 1525, 3) := by decide +kernel
theorem dX4_finds_6 : decode cX4_finds 6 = .ok (.if_icmp .ge 47, 3) := by decide +kernel
theorem dX4_finds_9 : decode cX4_finds 9 = .ok (.iload_n 3, 1) := by decide +kernel
theorem dX4_finds_10 : decode cX4_finds 10 = .ok (.bipush 61, 2) := by decide +kernel
theorem dX4_finds_12 : decode cX4_finds 12 = .ok (.irem, 1) := by decide +kernel
theorem dX4_finds_13 : decode cX4_finds 13 = .ok (.istore 4, 2) := by decide +kernel
theorem dX4_finds_15 : decode cX4_finds 15 = .ok (.aload_n 0, 1) := by decide +kernel
theorem dX4_finds_16 : decode cX4_finds 16 = .ok (.getfield 35, 3) := by decide +kernel
theorem dX4_finds_19 : decode cX4_finds 19 = .ok (.sipush 1525, 3) := by decide +kernel
theorem dX4_finds_22 : decode cX4_finds 22 = .ok (.aload_n 0, 1) := by decide +kernel
theorem dX4_finds_23 : decode cX4_finds 23 = .ok (.getfield 7, 3) := by decide +kernel
theorem dX4_finds_26 : decode cX4_finds 26 = .ok (.imul, 1) := by decide +kernel
theorem dX4_finds_27 : decode cX4_finds 27 = .ok (.iload_n 3, 1) := by decide +kernel
theorem dX4_finds_28 : decode cX4_finds 28 = .ok (.iadd, 1) := by decide +kernel
theorem dX4_finds_29 : decode cX4_finds 29 = .ok (.iload 4, 2) := by decide +kernel
theorem dX4_finds_31 : decode cX4_finds 31 = .ok (.iload_n 2, 1) := by decide +kernel
theorem dX4_finds_32 : decode cX4_finds 32 = .ok (.if_icmp .gt 13, 3) := by decide +kernel
theorem dX4_finds_35 : decode cX4_finds 35 = .ok (.iload 4, 2) := by decide +kernel
theorem dX4_finds_37 : decode cX4_finds 37 = .ok (.aload_n 0, 1) := by decide +kernel
theorem dX4_finds_38 : decode cX4_finds 38 = .ok (.getfield 65, 3) := by decide +kernel
theorem dX4_finds_41 : decode cX4_finds 41 = .ok (.imul, 1) := by decide +kernel
theorem dX4_finds_42 : decode cX4_finds 42 = .ok (.goto 4, 3) := by decide +kernel
theorem dX4_finds_45 : decode cX4_finds 45 = .ok (.iconst (-1), 1) := by decide +kernel
theorem dX4_finds_46 : decode cX4_finds 46 = .ok (.iastore, 1) := by decide +kernel
theorem dX4_finds_47 : decode cX4_finds 47 = .ok (.iinc 3 1, 3) := by decide +kernel
theorem dX4_finds_50 : decode cX4_finds 50 = .ok (.goto (-48), 3) := by decide +kernel
theorem dX4_finds_53 : decode cX4_finds 53 = .ok (.aload_n 0, 1) := by decide +kernel
theorem dX4_finds_54 : decode cX4_finds 54 = .ok (.getfield 7, 3) := by decide +kernel
theorem dX4_finds_57 : decode cX4_finds 57 = .ok (.iconst 1, 1) := by decide +kernel
theorem dX4_finds_58 : decode cX4_finds 58 = .ok (.isub, 1) := by decide +kernel
theorem dX4_finds_59 : decode cX4_finds 59 = .ok (.istore_n 3, 1) := by decide +kernel
theorem dX4_finds_60 : decode cX4_finds 60 = .ok (.iload_n 3, 1) := by decide +kernel
theorem dX4_finds_61 : decode cX4_finds 61 = .ok (.aload_n 0, 1) := by decide +kernel
theorem dX4_finds_62 : decode cX4_finds 62 = .ok (.getfield 49, 3) := by decide +kernel
theorem dX4_finds_65 : decode cX4_finds 65 = .ok (.if_icmp .lt 109, 3) := by decide +kernel
theorem dX4_finds_68 : decode cX4_finds 68 = .ok (.iconst 0, 1) := by decide +kernel
theorem dX4_finds_69 : decode cX4_finds 69 = .ok (.istore 4, 2) := by decide +kernel
theorem dX4_finds_71 : decode cX4_finds 71 = .ok (.iload 4, 2) := by decide +kernel
theorem dX4_finds_73 : decode cX4_finds 73 = .ok (.sipush 1525, 3) := by decide +kernel
theorem dX4_finds_76 : decode cX4_finds 76 = .ok (.if_icmp .ge 92, 3) := by decide +kernel
theorem dX4_finds_79 : decode cX4_finds 79 = .ok (.iload 4, 2) := by decide +kernel
theorem dX4_finds_81 : decode cX4_finds 81 = .ok (.bipush 61, 2) := by decide +kernel
theorem dX4_finds_83 : decode cX4_finds 83 = .ok (.idiv, 1) := by decide +kernel
theorem dX4_finds_84 : decode cX4_finds 84 = .ok (.iconst 5, 1) := by decide +kernel
theorem dX4_finds_85 : decode cX4_finds 85 = .ok (.idiv, 1) := by decide +kernel
theorem dX4_finds_86 : decode cX4_finds 86 = .ok (.istore 5, 2) := by decide +kernel
theorem dX4_finds_88 : decode cX4_finds 88 = .ok (.iconst (-1), 1) := by decide +kernel
theorem dX4_finds_89 : decode cX4_finds 89 = .ok (.istore 6, 2) := by decide +kernel
theorem dX4_finds_91 : decode cX4_finds 91 = .ok (.iload 5, 2) := by decide +kernel
theorem dX4_finds_93 : decode cX4_finds 93 = .ok (.istore 7, 2) := by decide +kernel
theorem dX4_finds_95 : decode cX4_finds 95 = .ok (.iload 7, 2) := by decide +kernel
theorem dX4_finds_97 : decode cX4_finds 97 = .ok (.iconst 5, 1) := by decide +kernel
theorem dX4_finds_98 : decode cX4_finds 98 = .ok (.if_icmp .ge 49, 3) := by decide +kernel
theorem dX4_finds_101 : decode cX4_finds 101 = .ok (.aload_n 0, 1) := by decide +kernel
theorem dX4_finds_102 : decode cX4_finds 102 = .ok (.iload_n 1, 1) := by decide +kernel
theorem dX4_finds_103 : decode cX4_finds 103 = .ok (.iload_n 3, 1) := by decide +kernel
theorem dX4_finds_104 : decode cX4_finds 104 = .ok (.iload 5, 2) := by decide +kernel
theorem dX4_finds_106 : decode cX4_finds 106 = .ok (.iload 4, 2) := by decide +kernel
theorem dX4_finds_108 : decode cX4_finds 108 = .ok (.bipush 61, 2) := by decide +kernel
theorem dX4_finds_110 : decode cX4_finds 110 = .ok (.idiv, 1) := by decide +kernel
theorem dX4_finds_111 : decode cX4_finds 111 = .ok (.iconst 5, 1) := by decide +kernel
theorem dX4_finds_112 : decode cX4_finds 112 = .ok (.irem, 1) := by decide +kernel
theorem dX4_finds_113 : decode cX4_finds 113 = .ok (.iload 4, 2) := by decide +kernel
theorem dX4_finds_115 : decode cX4_finds 115 = .ok (.bipush 61, 2) := by decide +kernel
theorem dX4_finds_117 : decode cX4_finds 117 = .ok (.irem, 1) := by decide +kernel
theorem dX4_finds_118 : decode cX4_finds 118 = .ok (.iload 7, 2) := by decide +kernel
theorem dX4_finds_120 : decode cX4_finds 120 = .ok (.invokevirtual 92, 3) := by decide +kernel
theorem dX4_finds_123 : decode cX4_finds 123 = .ok (.istore 8, 2) := by decide +kernel
theorem dX4_finds_125 : decode cX4_finds 125 = .ok (.iload 8, 2) := by decide +kernel
theorem dX4_finds_127 : decode cX4_finds 127 = .ok (.iload 6, 2) := by decide +kernel
theorem dX4_finds_129 : decode cX4_finds 129 = .ok (.if_icmp .le 8, 3) := by decide +kernel
theorem dX4_finds_132 : decode cX4_finds 132 = .ok (.iload 8, 2) := by decide +kernel
theorem dX4_finds_134 : decode cX4_finds 134 = .ok (.goto 5, 3) := by decide +kernel
theorem dX4_finds_137 : decode cX4_finds 137 = .ok (.iload 6, 2) := by decide +kernel
theorem dX4_finds_139 : decode cX4_finds 139 = .ok (.istore 6, 2) := by decide +kernel
theorem dX4_finds_141 : decode cX4_finds 141 = .ok (.iinc 7 1, 3) := by decide +kernel
theorem dX4_finds_144 : decode cX4_finds 144 = .ok (.goto (-49), 3) := by decide +kernel
theorem dX4_finds_147 : decode cX4_finds 147 = .ok (.aload_n 0, 1) := by decide +kernel
theorem dX4_finds_148 : decode cX4_finds 148 = .ok (.getfield 35, 3) := by decide +kernel
theorem dX4_finds_151 : decode cX4_finds 151 = .ok (.sipush 1525, 3) := by decide +kernel
theorem dX4_finds_154 : decode cX4_finds 154 = .ok (.iload_n 3, 1) := by decide +kernel
theorem dX4_finds_155 : decode cX4_finds 155 = .ok (.imul, 1) := by decide +kernel
theorem dX4_finds_156 : decode cX4_finds 156 = .ok (.iload 4, 2) := by decide +kernel
theorem dX4_finds_158 : decode cX4_finds 158 = .ok (.iadd, 1) := by decide +kernel
theorem dX4_finds_159 : decode cX4_finds 159 = .ok (.iload 6, 2) := by decide +kernel
theorem dX4_finds_161 : decode cX4_finds 161 = .ok (.iastore, 1) := by decide +kernel
theorem dX4_finds_162 : decode cX4_finds 162 = .ok (.iinc 4 1, 3) := by decide +kernel
theorem dX4_finds_165 : decode cX4_finds 165 = .ok (.goto (-94), 3) := by decide +kernel
theorem dX4_finds_168 : decode cX4_finds 168 = .ok (.iinc 3 (-1), 3) := by decide +kernel
theorem dX4_finds_171 : decode cX4_finds 171 = .ok (.goto (-111), 3) := by decide +kernel
theorem dX4_finds_174 : decode cX4_finds 174 = .ok (.aload_n 0, 1) := by decide +kernel
theorem dX4_finds_175 : decode cX4_finds 175 = .ok (.getfield 35, 3) := by decide +kernel
theorem dX4_finds_178 : decode cX4_finds 178 = .ok (.aload_n 0, 1) := by decide +kernel
theorem dX4_finds_179 : decode cX4_finds 179 = .ok (.getfield 49, 3) := by decide +kernel
theorem dX4_finds_182 : decode cX4_finds 182 = .ok (.aload_n 0, 1) := by decide +kernel
theorem dX4_finds_183 : decode cX4_finds 183 = .ok (.getfield 26, 3) := by decide +kernel
theorem dX4_finds_186 : decode cX4_finds 186 = .ok (.iload_n 1, 1) := by decide +kernel
theorem dX4_finds_187 : decode cX4_finds 187 = .ok (.iaload, 1) := by decide +kernel
theorem dX4_finds_188 : decode cX4_finds 188 = .ok (.aload_n 0, 1) := by decide +kernel
theorem dX4_finds_189 : decode cX4_finds 189 = .ok (.iload_n 1, 1) := by decide +kernel
theorem dX4_finds_190 : decode cX4_finds 190 = .ok (.invokevirtual 78, 3) := by decide +kernel
theorem dX4_finds_193 : decode cX4_finds 193 = .ok (.aload_n 0, 1) := by decide +kernel
theorem dX4_finds_194 : decode cX4_finds 194 = .ok (.iload_n 1, 1) := by decide +kernel
theorem dX4_finds_195 : decode cX4_finds 195 = .ok (.invokevirtual 74, 3) := by decide +kernel
theorem dX4_finds_198 : decode cX4_finds 198 = .ok (.invokestatic 88, 3) := by decide +kernel
theorem dX4_finds_201 : decode cX4_finds 201 = .ok (.iaload, 1) := by decide +kernel
theorem dX4_finds_202 : decode cX4_finds 202 = .ok (.ireturn, 1) := by decide +kernel
theorem dX4_best_0 : decode cX4_best 0 = .ok (.aload_n 0, 1) := by decide +kernel
theorem dX4_best_1 : decode cX4_best 1 = .ok (.iload_n 1, 1) := by decide +kernel
theorem dX4_best_2 : decode cX4_best 2 = .ok (.invokestatic 62, 3) := by decide +kernel
theorem dX4_best_5 : decode cX4_best 5 = .ok (.invokevirtual 45, 3) := by decide +kernel
theorem dX4_best_8 : decode cX4_best 8 = .ok (.ifCond .eq 13, 3) := by decide +kernel
theorem dX4_best_11 : decode cX4_best 11 = .ok (.aload_n 0, 1) := by decide +kernel
theorem dX4_best_12 : decode cX4_best 12 = .ok (.iload_n 1, 1) := by decide +kernel
theorem dX4_best_13 : decode cX4_best 13 = .ok (.bipush 60, 2) := by decide +kernel
theorem dX4_best_15 : decode cX4_best 15 = .ok (.invokevirtual 96, 3) := by decide +kernel
theorem dX4_best_18 : decode cX4_best 18 = .ok (.goto 4, 3) := by decide +kernel
theorem dX4_best_21 : decode cX4_best 21 = .ok (.iconst 0, 1) := by decide +kernel
theorem dX4_best_22 : decode cX4_best 22 = .ok (.ireturn, 1) := by decide +kernel
theorem dX4_bestByAll_0 : decode cX4_bestByAll 0 = .ok (.iload_n 1, 1) := by decide +kernel
theorem dX4_bestByAll_1 : decode cX4_bestByAll 1 = .ok (.invokestatic 62, 3) := by decide +kernel
theorem dX4_bestByAll_4 : decode cX4_bestByAll 4 = .ok (.istore_n 2, 1) := by decide +kernel
theorem dX4_bestByAll_5 : decode cX4_bestByAll 5 = .ok (.aload_n 0, 1) := by decide +kernel
theorem dX4_bestByAll_6 : decode cX4_bestByAll 6 = .ok (.iload_n 2, 1) := by decide +kernel
theorem dX4_bestByAll_7 : decode cX4_bestByAll 7 = .ok (.aload_n 0, 1) := by decide +kernel
theorem dX4_bestByAll_8 : decode cX4_bestByAll 8 = .ok (.getfield 7, 3) := by decide +kernel
theorem dX4_bestByAll_11 : decode cX4_bestByAll 11 = .ok (.aload_n 0, 1) := by decide +kernel
theorem dX4_bestByAll_12 : decode cX4_bestByAll 12 = .ok (.getfield 49, 3) := by decide +kernel
theorem dX4_bestByAll_15 : decode cX4_bestByAll 15 = .ok (.isub, 1) := by decide +kernel
theorem dX4_bestByAll_16 : decode cX4_bestByAll 16 = .ok (.bipush 6, 2) := by decide +kernel
theorem dX4_bestByAll_18 : decode cX4_bestByAll 18 = .ok (.if_icmp .gt 7, 3) := by decide +kernel
theorem dX4_bestByAll_21 : decode cX4_bestByAll 21 = .ok (.iconst 1, 1) := by decide +kernel
theorem dX4_bestByAll_22 : decode cX4_bestByAll 22 = .ok (.goto 4, 3) := by decide +kernel
theorem dX4_bestByAll_25 : decode cX4_bestByAll 25 = .ok (.iconst 0, 1) := by decide +kernel
theorem dX4_bestByAll_26 : decode cX4_bestByAll 26 = .ok (.invokevirtual 59, 3) := by decide +kernel
theorem dX4_bestByAll_29 : decode cX4_bestByAll 29 = .ok (.ifCond .eq 13, 3) := by decide +kernel
theorem dX4_bestByAll_32 : decode cX4_bestByAll 32 = .ok (.aload_n 0, 1) := by decide +kernel
theorem dX4_bestByAll_33 : decode cX4_bestByAll 33 = .ok (.iload_n 1, 1) := by decide +kernel
theorem dX4_bestByAll_34 : decode cX4_bestByAll 34 = .ok (.bipush 60, 2) := by decide +kernel
theorem dX4_bestByAll_36 : decode cX4_bestByAll 36 = .ok (.invokevirtual 96, 3) := by decide +kernel
theorem dX4_bestByAll_39 : decode cX4_bestByAll 39 = .ok (.goto 4, 3) := by decide +kernel
theorem dX4_bestByAll_42 : decode cX4_bestByAll 42 = .ok (.iconst 0, 1) := by decide +kernel
theorem dX4_bestByAll_43 : decode cX4_bestByAll 43 = .ok (.ireturn, 1) := by decide +kernel
theorem dX4_planned_0 : decode cX4_planned 0 = .ok (.aload_n 0, 1) := by decide +kernel
theorem dX4_planned_1 : decode cX4_planned 1 = .ok (.iload_n 1, 1) := by decide +kernel
theorem dX4_planned_2 : decode cX4_planned 2 = .ok (.invokestatic 62, 3) := by decide +kernel
theorem dX4_planned_5 : decode cX4_planned 5 = .ok (.ifCond .eq 24, 3) := by decide +kernel
theorem dX4_planned_8 : decode cX4_planned 8 = .ok (.iload_n 2, 1) := by decide +kernel
theorem dX4_planned_9 : decode cX4_planned 9 = .ok (.aload_n 0, 1) := by decide +kernel
theorem dX4_planned_10 : decode cX4_planned 10 = .ok (.getfield 49, 3) := by decide +kernel
theorem dX4_planned_13 : decode cX4_planned 13 = .ok (.aload_n 0, 1) := by decide +kernel
theorem dX4_planned_14 : decode cX4_planned 14 = .ok (.getfield 7, 3) := by decide +kernel
theorem dX4_planned_17 : decode cX4_planned 17 = .ok (.iconst 1, 1) := by decide +kernel
theorem dX4_planned_18 : decode cX4_planned 18 = .ok (.isub, 1) := by decide +kernel
theorem dX4_planned_19 : decode cX4_planned 19 = .ok (.invokestatic 41, 3) := by decide +kernel
theorem dX4_planned_22 : decode cX4_planned 22 = .ok (.ifCond .eq 7, 3) := by decide +kernel
theorem dX4_planned_25 : decode cX4_planned 25 = .ok (.iconst 1, 1) := by decide +kernel
theorem dX4_planned_26 : decode cX4_planned 26 = .ok (.goto 4, 3) := by decide +kernel
theorem dX4_planned_29 : decode cX4_planned 29 = .ok (.iconst 0, 1) := by decide +kernel
theorem dX4_planned_30 : decode cX4_planned 30 = .ok (.invokevirtual 45, 3) := by decide +kernel
theorem dX4_planned_33 : decode cX4_planned 33 = .ok (.ifCond .ne 5, 3) := by decide +kernel
theorem dX4_planned_36 : decode cX4_planned 36 = .ok (.iconst 0, 1) := by decide +kernel
theorem dX4_planned_37 : decode cX4_planned 37 = .ok (.ireturn, 1) := by decide +kernel
theorem dX4_planned_38 : decode cX4_planned 38 = .ok (.aload_n 0, 1) := by decide +kernel
theorem dX4_planned_39 : decode cX4_planned 39 = .ok (.iload_n 1, 1) := by decide +kernel
theorem dX4_planned_40 : decode cX4_planned 40 = .ok (.bipush 60, 2) := by decide +kernel
theorem dX4_planned_42 : decode cX4_planned 42 = .ok (.invokevirtual 96, 3) := by decide +kernel
theorem dX4_planned_45 : decode cX4_planned 45 = .ok (.istore_n 3, 1) := by decide +kernel
theorem dX4_planned_46 : decode cX4_planned 46 = .ok (.aload_n 0, 1) := by decide +kernel
theorem dX4_planned_47 : decode cX4_planned 47 = .ok (.getfield 26, 3) := by decide +kernel
theorem dX4_planned_50 : decode cX4_planned 50 = .ok (.iload_n 1, 1) := by decide +kernel
theorem dX4_planned_51 : decode cX4_planned 51 = .ok (.iaload, 1) := by decide +kernel
theorem dX4_planned_52 : decode cX4_planned 52 = .ok (.istore 4, 2) := by decide +kernel
theorem dX4_planned_54 : decode cX4_planned 54 = .ok (.aload_n 0, 1) := by decide +kernel
theorem dX4_planned_55 : decode cX4_planned 55 = .ok (.iload_n 1, 1) := by decide +kernel
theorem dX4_planned_56 : decode cX4_planned 56 = .ok (.invokevirtual 78, 3) := by decide +kernel
theorem dX4_planned_59 : decode cX4_planned 59 = .ok (.istore 5, 2) := by decide +kernel
theorem dX4_planned_61 : decode cX4_planned 61 = .ok (.aload_n 0, 1) := by decide +kernel
theorem dX4_planned_62 : decode cX4_planned 62 = .ok (.iload_n 1, 1) := by decide +kernel
theorem dX4_planned_63 : decode cX4_planned 63 = .ok (.invokevirtual 74, 3) := by decide +kernel
theorem dX4_planned_66 : decode cX4_planned 66 = .ok (.istore 6, 2) := by decide +kernel
theorem dX4_planned_68 : decode cX4_planned 68 = .ok (.aload_n 0, 1) := by decide +kernel
theorem dX4_planned_69 : decode cX4_planned 69 = .ok (.getfield 49, 3) := by decide +kernel
theorem dX4_planned_72 : decode cX4_planned 72 = .ok (.istore 7, 2) := by decide +kernel
theorem dX4_planned_74 : decode cX4_planned 74 = .ok (.iload 7, 2) := by decide +kernel
theorem dX4_planned_76 : decode cX4_planned 76 = .ok (.iload_n 2, 1) := by decide +kernel
theorem dX4_planned_77 : decode cX4_planned 77 = .ok (.if_icmp .gt 123, 3) := by decide +kernel
theorem dX4_planned_80 : decode cX4_planned 80 = .ok (.iload 4, 2) := by decide +kernel
theorem dX4_planned_82 : decode cX4_planned 82 = .ok (.istore 8, 2) := by decide +kernel
theorem dX4_planned_84 : decode cX4_planned 84 = .ok (.aload_n 0, 1) := by decide +kernel
theorem dX4_planned_85 : decode cX4_planned 85 = .ok (.iload_n 1, 1) := by decide +kernel
theorem dX4_planned_86 : decode cX4_planned 86 = .ok (.iload 7, 2) := by decide +kernel
theorem dX4_planned_88 : decode cX4_planned 88 = .ok (.iload 8, 2) := by decide +kernel
theorem dX4_planned_90 : decode cX4_planned 90 = .ok (.iload 5, 2) := by decide +kernel
theorem dX4_planned_92 : decode cX4_planned 92 = .ok (.iload 6, 2) := by decide +kernel
theorem dX4_planned_94 : decode cX4_planned 94 = .ok (.iload 4, 2) := by decide +kernel
theorem dX4_planned_96 : decode cX4_planned 96 = .ok (.invokevirtual 92, 3) := by decide +kernel
theorem dX4_planned_99 : decode cX4_planned 99 = .ok (.iload_n 3, 1) := by decide +kernel
theorem dX4_planned_100 : decode cX4_planned 100 = .ok (.if_icmp .eq 9, 3) := by decide +kernel
theorem dX4_planned_103 : decode cX4_planned 103 = .ok (.iinc 4 1, 3) := by decide +kernel
theorem dX4_planned_106 : decode cX4_planned 106 = .ok (.goto (-22), 3) := by decide +kernel
theorem dX4_planned_109 : decode cX4_planned 109 = .ok (.aload_n 0, 1) := by decide +kernel
theorem dX4_planned_110 : decode cX4_planned 110 = .ok (.getfield 17, 3) := by decide +kernel
theorem dX4_planned_113 : decode cX4_planned 113 = .ok (.iconst 5, 1) := by decide +kernel
theorem dX4_planned_114 : decode cX4_planned 114 = .ok (.iload_n 1, 1) := by decide +kernel
theorem dX4_planned_115 : decode cX4_planned 115 = .ok (.imul, 1) := by decide +kernel
theorem dX4_planned_116 : decode cX4_planned 116 = .ok (.iload 4, 2) := by decide +kernel
theorem dX4_planned_118 : decode cX4_planned 118 = .ok (.iadd, 1) := by decide +kernel
theorem dX4_planned_119 : decode cX4_planned 119 = .ok (.iaload, 1) := by decide +kernel
theorem dX4_planned_120 : decode cX4_planned 120 = .ok (.iload 6, 2) := by decide +kernel
theorem dX4_planned_122 : decode cX4_planned 122 = .ok (.if_icmp .ge 17, 3) := by decide +kernel
theorem dX4_planned_125 : decode cX4_planned 125 = .ok (.aload_n 0, 1) := by decide +kernel
theorem dX4_planned_126 : decode cX4_planned 126 = .ok (.getfield 17, 3) := by decide +kernel
theorem dX4_planned_129 : decode cX4_planned 129 = .ok (.iconst 5, 1) := by decide +kernel
theorem dX4_planned_130 : decode cX4_planned 130 = .ok (.iload_n 1, 1) := by decide +kernel
theorem dX4_planned_131 : decode cX4_planned 131 = .ok (.imul, 1) := by decide +kernel
theorem dX4_planned_132 : decode cX4_planned 132 = .ok (.iload 4, 2) := by decide +kernel
theorem dX4_planned_134 : decode cX4_planned 134 = .ok (.iadd, 1) := by decide +kernel
theorem dX4_planned_135 : decode cX4_planned 135 = .ok (.iaload, 1) := by decide +kernel
theorem dX4_planned_136 : decode cX4_planned 136 = .ok (.goto 5, 3) := by decide +kernel
theorem dX4_planned_139 : decode cX4_planned 139 = .ok (.iload 6, 2) := by decide +kernel
theorem dX4_planned_141 : decode cX4_planned 141 = .ok (.istore 9, 2) := by decide +kernel
theorem dX4_planned_143 : decode cX4_planned 143 = .ok (.iload_n 3, 1) := by decide +kernel
theorem dX4_planned_144 : decode cX4_planned 144 = .ok (.iload 9, 2) := by decide +kernel
theorem dX4_planned_146 : decode cX4_planned 146 = .ok (.aload_n 0, 1) := by decide +kernel
theorem dX4_planned_147 : decode cX4_planned 147 = .ok (.getfield 13, 3) := by decide +kernel
theorem dX4_planned_150 : decode cX4_planned 150 = .ok (.iload 4, 2) := by decide +kernel
theorem dX4_planned_152 : decode cX4_planned 152 = .ok (.iaload, 1) := by decide +kernel
theorem dX4_planned_153 : decode cX4_planned 153 = .ok (.imul, 1) := by decide +kernel
theorem dX4_planned_154 : decode cX4_planned 154 = .ok (.isub, 1) := by decide +kernel
theorem dX4_planned_155 : decode cX4_planned 155 = .ok (.istore_n 3, 1) := by decide +kernel
theorem dX4_planned_156 : decode cX4_planned 156 = .ok (.iload 6, 2) := by decide +kernel
theorem dX4_planned_158 : decode cX4_planned 158 = .ok (.iload 9, 2) := by decide +kernel
theorem dX4_planned_160 : decode cX4_planned 160 = .ok (.isub, 1) := by decide +kernel
theorem dX4_planned_161 : decode cX4_planned 161 = .ok (.istore 6, 2) := by decide +kernel
theorem dX4_planned_163 : decode cX4_planned 163 = .ok (.iload 4, 2) := by decide +kernel
theorem dX4_planned_165 : decode cX4_planned 165 = .ok (.iload 8, 2) := by decide +kernel
theorem dX4_planned_167 : decode cX4_planned 167 = .ok (.if_icmp .le 12, 3) := by decide +kernel
theorem dX4_planned_170 : decode cX4_planned 170 = .ok (.aload_n 0, 1) := by decide +kernel
theorem dX4_planned_171 : decode cX4_planned 171 = .ok (.getfield 20, 3) := by decide +kernel
theorem dX4_planned_174 : decode cX4_planned 174 = .ok (.iconst 1, 1) := by decide +kernel
theorem dX4_planned_175 : decode cX4_planned 175 = .ok (.isub, 1) := by decide +kernel
theorem dX4_planned_176 : decode cX4_planned 176 = .ok (.goto 16, 3) := by decide +kernel
theorem dX4_planned_179 : decode cX4_planned 179 = .ok (.iload 5, 2) := by decide +kernel
theorem dX4_planned_181 : decode cX4_planned 181 = .ok (.ifCond .le 10, 3) := by decide +kernel
theorem dX4_planned_184 : decode cX4_planned 184 = .ok (.iload 5, 2) := by decide +kernel
theorem dX4_planned_186 : decode cX4_planned 186 = .ok (.iconst 1, 1) := by decide +kernel
theorem dX4_planned_187 : decode cX4_planned 187 = .ok (.isub, 1) := by decide +kernel
theorem dX4_planned_188 : decode cX4_planned 188 = .ok (.goto 4, 3) := by decide +kernel
theorem dX4_planned_191 : decode cX4_planned 191 = .ok (.iconst 0, 1) := by decide +kernel
theorem dX4_planned_192 : decode cX4_planned 192 = .ok (.istore 5, 2) := by decide +kernel
theorem dX4_planned_194 : decode cX4_planned 194 = .ok (.iinc 7 1, 3) := by decide +kernel
theorem dX4_planned_197 : decode cX4_planned 197 = .ok (.goto (-123), 3) := by decide +kernel
theorem dX4_planned_200 : decode cX4_planned 200 = .ok (.iload 4, 2) := by decide +kernel
theorem dX4_planned_202 : decode cX4_planned 202 = .ok (.ireturn, 1) := by decide +kernel
theorem dX4_bestLeaving_0 : decode cX4_bestLeaving 0 = .ok (.aload_n 0, 1) := by decide +kernel
theorem dX4_bestLeaving_1 : decode cX4_bestLeaving 1 = .ok (.iload_n 1, 1) := by decide +kernel
theorem dX4_bestLeaving_2 : decode cX4_bestLeaving 2 = .ok (.invokestatic 62, 3) := by decide +kernel
theorem dX4_bestLeaving_5 : decode cX4_bestLeaving 5 = .ok (.ifCond .eq 17, 3) := by decide +kernel
theorem dX4_bestLeaving_8 : decode cX4_bestLeaving 8 = .ok (.iload_n 2, 1) := by decide +kernel
theorem dX4_bestLeaving_9 : decode cX4_bestLeaving 9 = .ok (.iconst 0, 1) := by decide +kernel
theorem dX4_bestLeaving_10 : decode cX4_bestLeaving 10 = .ok (.bipush 60, 2) := by decide +kernel
theorem dX4_bestLeaving_12 : decode cX4_bestLeaving 12 = .ok (.invokestatic 41, 3) := by decide +kernel
theorem dX4_bestLeaving_15 : decode cX4_bestLeaving 15 = .ok (.ifCond .eq 7, 3) := by decide +kernel
theorem dX4_bestLeaving_18 : decode cX4_bestLeaving 18 = .ok (.iconst 1, 1) := by decide +kernel
theorem dX4_bestLeaving_19 : decode cX4_bestLeaving 19 = .ok (.goto 4, 3) := by decide +kernel
theorem dX4_bestLeaving_22 : decode cX4_bestLeaving 22 = .ok (.iconst 0, 1) := by decide +kernel
theorem dX4_bestLeaving_23 : decode cX4_bestLeaving 23 = .ok (.invokevirtual 45, 3) := by decide +kernel
theorem dX4_bestLeaving_26 : decode cX4_bestLeaving 26 = .ok (.ifCond .eq 12, 3) := by decide +kernel
theorem dX4_bestLeaving_29 : decode cX4_bestLeaving 29 = .ok (.aload_n 0, 1) := by decide +kernel
theorem dX4_bestLeaving_30 : decode cX4_bestLeaving 30 = .ok (.iload_n 1, 1) := by decide +kernel
theorem dX4_bestLeaving_31 : decode cX4_bestLeaving 31 = .ok (.iload_n 2, 1) := by decide +kernel
theorem dX4_bestLeaving_32 : decode cX4_bestLeaving 32 = .ok (.invokevirtual 96, 3) := by decide +kernel
theorem dX4_bestLeaving_35 : decode cX4_bestLeaving 35 = .ok (.goto 4, 3) := by decide +kernel
theorem dX4_bestLeaving_38 : decode cX4_bestLeaving 38 = .ok (.iconst 0, 1) := by decide +kernel
theorem dX4_bestLeaving_39 : decode cX4_bestLeaving 39 = .ok (.ireturn, 1) := by decide +kernel
theorem dL_begin_0 : decode cL_begin 0 = .ok (.aload_n 2, 1) := by decide +kernel
theorem dL_begin_1 : decode cL_begin 1 = .ok (.iconst 0, 1) := by decide +kernel
theorem dL_begin_2 : decode cL_begin 2 = .ok (.aload_n 0, 1) := by decide +kernel
theorem dL_begin_3 : decode cL_begin 3 = .ok (.iload_n 1, 1) := by decide +kernel
theorem dL_begin_4 : decode cL_begin 4 = .ok (.invokevirtual 7, 3) := by decide +kernel
theorem dL_begin_7 : decode cL_begin 7 = .ok (.i2l, 1) := by decide +kernel
theorem dL_begin_8 : decode cL_begin 8 = .ok (.lastore, 1) := by decide +kernel
theorem dL_begin_9 : decode cL_begin 9 = .ok (.goto 6, 3) := by decide +kernel
theorem dL_begin_12 : decode cL_begin 12 = .ok (.astore_n 3, 1) := by decide +kernel
theorem dL_begin_13 : decode cL_begin 13 = .ok (.iconst 1, 1) := by decide +kernel
theorem dL_begin_14 : decode cL_begin 14 = .ok (.ireturn, 1) := by decide +kernel
theorem dL_begin_15 : decode cL_begin 15 = .ok (.iconst 0, 1) := by decide +kernel
theorem dL_begin_16 : decode cL_begin 16 = .ok (.ireturn, 1) := by decide +kernel
theorem dL_setPrice_0 : decode cL_setPrice 0 = .ok (.aload_n 3, 1) := by decide +kernel
theorem dL_setPrice_1 : decode cL_setPrice 1 = .ok (.iconst 0, 1) := by decide +kernel
theorem dL_setPrice_2 : decode cL_setPrice 2 = .ok (.aload_n 0, 1) := by decide +kernel
theorem dL_setPrice_3 : decode cL_setPrice 3 = .ok (.iload_n 1, 1) := by decide +kernel
theorem dL_setPrice_4 : decode cL_setPrice 4 = .ok (.iload_n 2, 1) := by decide +kernel
theorem dL_setPrice_5 : decode cL_setPrice 5 = .ok (.invokevirtual 15, 3) := by decide +kernel
theorem dL_setPrice_8 : decode cL_setPrice 8 = .ok (.i2l, 1) := by decide +kernel
theorem dL_setPrice_9 : decode cL_setPrice 9 = .ok (.lastore, 1) := by decide +kernel
theorem dL_setPrice_10 : decode cL_setPrice 10 = .ok (.goto 11, 3) := by decide +kernel
theorem dL_setPrice_13 : decode cL_setPrice 13 = .ok (.astore 4, 2) := by decide +kernel
theorem dL_setPrice_15 : decode cL_setPrice 15 = .ok (.iconst 1, 1) := by decide +kernel
theorem dL_setPrice_16 : decode cL_setPrice 16 = .ok (.ireturn, 1) := by decide +kernel
theorem dL_setPrice_17 : decode cL_setPrice 17 = .ok (.astore 4, 2) := by decide +kernel
theorem dL_setPrice_19 : decode cL_setPrice 19 = .ok (.iconst 2, 1) := by decide +kernel
theorem dL_setPrice_20 : decode cL_setPrice 20 = .ok (.ireturn, 1) := by decide +kernel
theorem dL_setPrice_21 : decode cL_setPrice 21 = .ok (.iconst 0, 1) := by decide +kernel
theorem dL_setPrice_22 : decode cL_setPrice 22 = .ok (.ireturn, 1) := by decide +kernel
theorem dL_setDemand_0 : decode cL_setDemand 0 = .ok (.aload 4, 2) := by decide +kernel
theorem dL_setDemand_2 : decode cL_setDemand 2 = .ok (.iconst 0, 1) := by decide +kernel
theorem dL_setDemand_3 : decode cL_setDemand 3 = .ok (.aload_n 0, 1) := by decide +kernel
theorem dL_setDemand_4 : decode cL_setDemand 4 = .ok (.iload_n 1, 1) := by decide +kernel
theorem dL_setDemand_5 : decode cL_setDemand 5 = .ok (.iload_n 2, 1) := by decide +kernel
theorem dL_setDemand_6 : decode cL_setDemand 6 = .ok (.iload_n 3, 1) := by decide +kernel
theorem dL_setDemand_7 : decode cL_setDemand 7 = .ok (.invokevirtual 21, 3) := by decide +kernel
theorem dL_setDemand_10 : decode cL_setDemand 10 = .ok (.i2l, 1) := by decide +kernel
theorem dL_setDemand_11 : decode cL_setDemand 11 = .ok (.lastore, 1) := by decide +kernel
theorem dL_setDemand_12 : decode cL_setDemand 12 = .ok (.goto 7, 3) := by decide +kernel
theorem dL_setDemand_15 : decode cL_setDemand 15 = .ok (.astore 5, 2) := by decide +kernel
theorem dL_setDemand_17 : decode cL_setDemand 17 = .ok (.iconst 1, 1) := by decide +kernel
theorem dL_setDemand_18 : decode cL_setDemand 18 = .ok (.ireturn, 1) := by decide +kernel
theorem dL_setDemand_19 : decode cL_setDemand 19 = .ok (.iconst 0, 1) := by decide +kernel
theorem dL_setDemand_20 : decode cL_setDemand 20 = .ok (.ireturn, 1) := by decide +kernel
theorem dL_setRules_0 : decode cL_setRules 0 = .ok (.aload_n 0, 1) := by decide +kernel
theorem dL_setRules_1 : decode cL_setRules 1 = .ok (.iload_n 1, 1) := by decide +kernel
theorem dL_setRules_2 : decode cL_setRules 2 = .ok (.iload_n 2, 1) := by decide +kernel
theorem dL_setRules_3 : decode cL_setRules 3 = .ok (.iload_n 3, 1) := by decide +kernel
theorem dL_setRules_4 : decode cL_setRules 4 = .ok (.invokevirtual 25, 3) := by decide +kernel
theorem dL_setRules_7 : decode cL_setRules 7 = .ok (.goto 7, 3) := by decide +kernel
theorem dL_setRules_10 : decode cL_setRules 10 = .ok (.astore 4, 2) := by decide +kernel
theorem dL_setRules_12 : decode cL_setRules 12 = .ok (.iconst 1, 1) := by decide +kernel
theorem dL_setRules_13 : decode cL_setRules 13 = .ok (.ireturn, 1) := by decide +kernel
theorem dL_setRules_14 : decode cL_setRules 14 = .ok (.iconst 0, 1) := by decide +kernel
theorem dL_setRules_15 : decode cL_setRules 15 = .ok (.ireturn, 1) := by decide +kernel
theorem dL_put_0 : decode cL_put 0 = .ok (.aload 4, 2) := by decide +kernel
theorem dL_put_2 : decode cL_put 2 = .ok (.iconst 0, 1) := by decide +kernel
theorem dL_put_3 : decode cL_put 3 = .ok (.aload_n 0, 1) := by decide +kernel
theorem dL_put_4 : decode cL_put 4 = .ok (.iload_n 1, 1) := by decide +kernel
theorem dL_put_5 : decode cL_put 5 = .ok (.iload_n 2, 1) := by decide +kernel
theorem dL_put_6 : decode cL_put 6 = .ok (.iload_n 3, 1) := by decide +kernel
theorem dL_put_7 : decode cL_put 7 = .ok (.invokevirtual 29, 3) := by decide +kernel
theorem dL_put_10 : decode cL_put 10 = .ok (.i2l, 1) := by decide +kernel
theorem dL_put_11 : decode cL_put 11 = .ok (.lastore, 1) := by decide +kernel
theorem dL_put_12 : decode cL_put 12 = .ok (.goto 11, 3) := by decide +kernel
theorem dL_put_15 : decode cL_put 15 = .ok (.astore 5, 2) := by decide +kernel
theorem dL_put_17 : decode cL_put 17 = .ok (.iconst 1, 1) := by decide +kernel
theorem dL_put_18 : decode cL_put 18 = .ok (.ireturn, 1) := by decide +kernel
theorem dL_put_19 : decode cL_put 19 = .ok (.astore 5, 2) := by decide +kernel
theorem dL_put_21 : decode cL_put 21 = .ok (.iconst 2, 1) := by decide +kernel
theorem dL_put_22 : decode cL_put 22 = .ok (.ireturn, 1) := by decide +kernel
theorem dL_put_23 : decode cL_put 23 = .ok (.iconst 0, 1) := by decide +kernel
theorem dL_put_24 : decode cL_put 24 = .ok (.ireturn, 1) := by decide +kernel
theorem dL_markDown_0 : decode cL_markDown 0 = .ok (.aload_n 3, 1) := by decide +kernel
theorem dL_markDown_1 : decode cL_markDown 1 = .ok (.iconst 0, 1) := by decide +kernel
theorem dL_markDown_2 : decode cL_markDown 2 = .ok (.aload_n 0, 1) := by decide +kernel
theorem dL_markDown_3 : decode cL_markDown 3 = .ok (.iload_n 1, 1) := by decide +kernel
theorem dL_markDown_4 : decode cL_markDown 4 = .ok (.iload_n 2, 1) := by decide +kernel
theorem dL_markDown_5 : decode cL_markDown 5 = .ok (.invokevirtual 32, 3) := by decide +kernel
theorem dL_markDown_8 : decode cL_markDown 8 = .ok (.i2l, 1) := by decide +kernel
theorem dL_markDown_9 : decode cL_markDown 9 = .ok (.lastore, 1) := by decide +kernel
theorem dL_markDown_10 : decode cL_markDown 10 = .ok (.goto 11, 3) := by decide +kernel
theorem dL_markDown_13 : decode cL_markDown 13 = .ok (.astore 4, 2) := by decide +kernel
theorem dL_markDown_15 : decode cL_markDown 15 = .ok (.iconst 1, 1) := by decide +kernel
theorem dL_markDown_16 : decode cL_markDown 16 = .ok (.ireturn, 1) := by decide +kernel
theorem dL_markDown_17 : decode cL_markDown 17 = .ok (.astore 4, 2) := by decide +kernel
theorem dL_markDown_19 : decode cL_markDown 19 = .ok (.iconst 2, 1) := by decide +kernel
theorem dL_markDown_20 : decode cL_markDown 20 = .ok (.ireturn, 1) := by decide +kernel
theorem dL_markDown_21 : decode cL_markDown 21 = .ok (.iconst 0, 1) := by decide +kernel
theorem dL_markDown_22 : decode cL_markDown 22 = .ok (.ireturn, 1) := by decide +kernel
theorem dL_move_0 : decode cL_move 0 = .ok (.aload 5, 2) := by decide +kernel
theorem dL_move_2 : decode cL_move 2 = .ok (.iconst 0, 1) := by decide +kernel
theorem dL_move_3 : decode cL_move 3 = .ok (.aload_n 0, 1) := by decide +kernel
theorem dL_move_4 : decode cL_move 4 = .ok (.iload_n 1, 1) := by decide +kernel
theorem dL_move_5 : decode cL_move 5 = .ok (.iload_n 2, 1) := by decide +kernel
theorem dL_move_6 : decode cL_move 6 = .ok (.iload_n 3, 1) := by decide +kernel
theorem dL_move_7 : decode cL_move 7 = .ok (.iload 4, 2) := by decide +kernel
theorem dL_move_9 : decode cL_move 9 = .ok (.invokevirtual 35, 3) := by decide +kernel
theorem dL_move_12 : decode cL_move 12 = .ok (.i2l, 1) := by decide +kernel
theorem dL_move_13 : decode cL_move 13 = .ok (.lastore, 1) := by decide +kernel
theorem dL_move_14 : decode cL_move 14 = .ok (.goto 11, 3) := by decide +kernel
theorem dL_move_17 : decode cL_move 17 = .ok (.astore 6, 2) := by decide +kernel
theorem dL_move_19 : decode cL_move 19 = .ok (.iconst 1, 1) := by decide +kernel
theorem dL_move_20 : decode cL_move 20 = .ok (.ireturn, 1) := by decide +kernel
theorem dL_move_21 : decode cL_move 21 = .ok (.astore 6, 2) := by decide +kernel
theorem dL_move_23 : decode cL_move 23 = .ok (.iconst 2, 1) := by decide +kernel
theorem dL_move_24 : decode cL_move 24 = .ok (.ireturn, 1) := by decide +kernel
theorem dL_move_25 : decode cL_move 25 = .ok (.iconst 0, 1) := by decide +kernel
theorem dL_move_26 : decode cL_move 26 = .ok (.ireturn, 1) := by decide +kernel
theorem dL_run_0 : decode cL_run 0 = .ok (.aload_n 1, 1) := by decide +kernel
theorem dL_run_1 : decode cL_run 1 = .ok (.iconst 0, 1) := by decide +kernel
theorem dL_run_2 : decode cL_run 2 = .ok (.aload_n 0, 1) := by decide +kernel
theorem dL_run_3 : decode cL_run 3 = .ok (.invokevirtual 39, 3) := by decide +kernel
theorem dL_run_6 : decode cL_run 6 = .ok (.i2l, 1) := by decide +kernel
theorem dL_run_7 : decode cL_run 7 = .ok (.lastore, 1) := by decide +kernel
theorem dL_run_8 : decode cL_run 8 = .ok (.goto 6, 3) := by decide +kernel
theorem dL_run_11 : decode cL_run 11 = .ok (.astore_n 2, 1) := by decide +kernel
theorem dL_run_12 : decode cL_run 12 = .ok (.iconst 1, 1) := by decide +kernel
theorem dL_run_13 : decode cL_run 13 = .ok (.ireturn, 1) := by decide +kernel
theorem dL_run_14 : decode cL_run 14 = .ok (.iconst 0, 1) := by decide +kernel
theorem dL_run_15 : decode cL_run 15 = .ok (.ireturn, 1) := by decide +kernel
theorem dL_stock_0 : decode cL_stock 0 = .ok (.aload_n 3, 1) := by decide +kernel
theorem dL_stock_1 : decode cL_stock 1 = .ok (.iconst 0, 1) := by decide +kernel
theorem dL_stock_2 : decode cL_stock 2 = .ok (.aload_n 0, 1) := by decide +kernel
theorem dL_stock_3 : decode cL_stock 3 = .ok (.iload_n 1, 1) := by decide +kernel
theorem dL_stock_4 : decode cL_stock 4 = .ok (.iload_n 2, 1) := by decide +kernel
theorem dL_stock_5 : decode cL_stock 5 = .ok (.invokevirtual 43, 3) := by decide +kernel
theorem dL_stock_8 : decode cL_stock 8 = .ok (.i2l, 1) := by decide +kernel
theorem dL_stock_9 : decode cL_stock 9 = .ok (.lastore, 1) := by decide +kernel
theorem dL_stock_10 : decode cL_stock 10 = .ok (.goto 7, 3) := by decide +kernel
theorem dL_stock_13 : decode cL_stock 13 = .ok (.astore 4, 2) := by decide +kernel
theorem dL_stock_15 : decode cL_stock 15 = .ok (.iconst 1, 1) := by decide +kernel
theorem dL_stock_16 : decode cL_stock 16 = .ok (.ireturn, 1) := by decide +kernel
theorem dL_stock_17 : decode cL_stock 17 = .ok (.iconst 0, 1) := by decide +kernel
theorem dL_stock_18 : decode cL_stock 18 = .ok (.ireturn, 1) := by decide +kernel
theorem dL_step_0 : decode cL_step 0 = .ok (.aload_n 2, 1) := by decide +kernel
theorem dL_step_1 : decode cL_step 1 = .ok (.iconst 0, 1) := by decide +kernel
theorem dL_step_2 : decode cL_step 2 = .ok (.aload_n 0, 1) := by decide +kernel
theorem dL_step_3 : decode cL_step 3 = .ok (.iload_n 1, 1) := by decide +kernel
theorem dL_step_4 : decode cL_step 4 = .ok (.invokevirtual 46, 3) := by decide +kernel
theorem dL_step_7 : decode cL_step 7 = .ok (.i2l, 1) := by decide +kernel
theorem dL_step_8 : decode cL_step 8 = .ok (.lastore, 1) := by decide +kernel
theorem dL_step_9 : decode cL_step 9 = .ok (.goto 6, 3) := by decide +kernel
theorem dL_step_12 : decode cL_step 12 = .ok (.astore_n 3, 1) := by decide +kernel
theorem dL_step_13 : decode cL_step 13 = .ok (.iconst 1, 1) := by decide +kernel
theorem dL_step_14 : decode cL_step 14 = .ok (.ireturn, 1) := by decide +kernel
theorem dL_step_15 : decode cL_step 15 = .ok (.iconst 0, 1) := by decide +kernel
theorem dL_step_16 : decode cL_step 16 = .ok (.ireturn, 1) := by decide +kernel
theorem dL_weeksToWait_0 : decode cL_weeksToWait 0 = .ok (.aload_n 2, 1) := by decide +kernel
theorem dL_weeksToWait_1 : decode cL_weeksToWait 1 = .ok (.iconst 0, 1) := by decide +kernel
theorem dL_weeksToWait_2 : decode cL_weeksToWait 2 = .ok (.aload_n 0, 1) := by decide +kernel
theorem dL_weeksToWait_3 : decode cL_weeksToWait 3 = .ok (.iload_n 1, 1) := by decide +kernel
theorem dL_weeksToWait_4 : decode cL_weeksToWait 4 = .ok (.invokevirtual 49, 3) := by decide +kernel
theorem dL_weeksToWait_7 : decode cL_weeksToWait 7 = .ok (.i2l, 1) := by decide +kernel
theorem dL_weeksToWait_8 : decode cL_weeksToWait 8 = .ok (.lastore, 1) := by decide +kernel
theorem dL_weeksToWait_9 : decode cL_weeksToWait 9 = .ok (.goto 6, 3) := by decide +kernel
theorem dL_weeksToWait_12 : decode cL_weeksToWait 12 = .ok (.astore_n 3, 1) := by decide +kernel
theorem dL_weeksToWait_13 : decode cL_weeksToWait 13 = .ok (.iconst 1, 1) := by decide +kernel
theorem dL_weeksToWait_14 : decode cL_weeksToWait 14 = .ok (.ireturn, 1) := by decide +kernel
theorem dL_weeksToWait_15 : decode cL_weeksToWait 15 = .ok (.iconst 0, 1) := by decide +kernel
theorem dL_weeksToWait_16 : decode cL_weeksToWait 16 = .ok (.ireturn, 1) := by decide +kernel
theorem dL_sold_0 : decode cL_sold 0 = .ok (.aload_n 2, 1) := by decide +kernel
theorem dL_sold_1 : decode cL_sold 1 = .ok (.iconst 0, 1) := by decide +kernel
theorem dL_sold_2 : decode cL_sold 2 = .ok (.aload_n 0, 1) := by decide +kernel
theorem dL_sold_3 : decode cL_sold 3 = .ok (.iload_n 1, 1) := by decide +kernel
theorem dL_sold_4 : decode cL_sold 4 = .ok (.invokevirtual 52, 3) := by decide +kernel
theorem dL_sold_7 : decode cL_sold 7 = .ok (.i2l, 1) := by decide +kernel
theorem dL_sold_8 : decode cL_sold 8 = .ok (.lastore, 1) := by decide +kernel
theorem dL_sold_9 : decode cL_sold 9 = .ok (.goto 6, 3) := by decide +kernel
theorem dL_sold_12 : decode cL_sold 12 = .ok (.astore_n 3, 1) := by decide +kernel
theorem dL_sold_13 : decode cL_sold 13 = .ok (.iconst 1, 1) := by decide +kernel
theorem dL_sold_14 : decode cL_sold 14 = .ok (.ireturn, 1) := by decide +kernel
theorem dL_sold_15 : decode cL_sold 15 = .ok (.iconst 0, 1) := by decide +kernel
theorem dL_sold_16 : decode cL_sold 16 = .ok (.ireturn, 1) := by decide +kernel
theorem dL_wouldSell_0 : decode cL_wouldSell 0 = .ok (.aload_n 3, 1) := by decide +kernel
theorem dL_wouldSell_1 : decode cL_wouldSell 1 = .ok (.iconst 0, 1) := by decide +kernel
theorem dL_wouldSell_2 : decode cL_wouldSell 2 = .ok (.aload_n 0, 1) := by decide +kernel
theorem dL_wouldSell_3 : decode cL_wouldSell 3 = .ok (.iload_n 1, 1) := by decide +kernel
theorem dL_wouldSell_4 : decode cL_wouldSell 4 = .ok (.iload_n 2, 1) := by decide +kernel
theorem dL_wouldSell_5 : decode cL_wouldSell 5 = .ok (.invokevirtual 55, 3) := by decide +kernel
theorem dL_wouldSell_8 : decode cL_wouldSell 8 = .ok (.i2l, 1) := by decide +kernel
theorem dL_wouldSell_9 : decode cL_wouldSell 9 = .ok (.lastore, 1) := by decide +kernel
theorem dL_wouldSell_10 : decode cL_wouldSell 10 = .ok (.goto 7, 3) := by decide +kernel
theorem dL_wouldSell_13 : decode cL_wouldSell 13 = .ok (.astore 4, 2) := by decide +kernel
theorem dL_wouldSell_15 : decode cL_wouldSell 15 = .ok (.iconst 1, 1) := by decide +kernel
theorem dL_wouldSell_16 : decode cL_wouldSell 16 = .ok (.ireturn, 1) := by decide +kernel
theorem dL_wouldSell_17 : decode cL_wouldSell 17 = .ok (.iconst 0, 1) := by decide +kernel
theorem dL_wouldSell_18 : decode cL_wouldSell 18 = .ok (.ireturn, 1) := by decide +kernel
theorem dL_best_0 : decode cL_best 0 = .ok (.aload_n 2, 1) := by decide +kernel
theorem dL_best_1 : decode cL_best 1 = .ok (.iconst 0, 1) := by decide +kernel
theorem dL_best_2 : decode cL_best 2 = .ok (.aload_n 0, 1) := by decide +kernel
theorem dL_best_3 : decode cL_best 3 = .ok (.iload_n 1, 1) := by decide +kernel
theorem dL_best_4 : decode cL_best 4 = .ok (.invokevirtual 58, 3) := by decide +kernel
theorem dL_best_7 : decode cL_best 7 = .ok (.i2l, 1) := by decide +kernel
theorem dL_best_8 : decode cL_best 8 = .ok (.lastore, 1) := by decide +kernel
theorem dL_best_9 : decode cL_best 9 = .ok (.goto 6, 3) := by decide +kernel
theorem dL_best_12 : decode cL_best 12 = .ok (.astore_n 3, 1) := by decide +kernel
theorem dL_best_13 : decode cL_best 13 = .ok (.iconst 1, 1) := by decide +kernel
theorem dL_best_14 : decode cL_best 14 = .ok (.ireturn, 1) := by decide +kernel
theorem dL_best_15 : decode cL_best 15 = .ok (.iconst 0, 1) := by decide +kernel
theorem dL_best_16 : decode cL_best 16 = .ok (.ireturn, 1) := by decide +kernel
theorem dL_bestByAll_0 : decode cL_bestByAll 0 = .ok (.aload_n 2, 1) := by decide +kernel
theorem dL_bestByAll_1 : decode cL_bestByAll 1 = .ok (.iconst 0, 1) := by decide +kernel
theorem dL_bestByAll_2 : decode cL_bestByAll 2 = .ok (.aload_n 0, 1) := by decide +kernel
theorem dL_bestByAll_3 : decode cL_bestByAll 3 = .ok (.iload_n 1, 1) := by decide +kernel
theorem dL_bestByAll_4 : decode cL_bestByAll 4 = .ok (.invokevirtual 61, 3) := by decide +kernel
theorem dL_bestByAll_7 : decode cL_bestByAll 7 = .ok (.i2l, 1) := by decide +kernel
theorem dL_bestByAll_8 : decode cL_bestByAll 8 = .ok (.lastore, 1) := by decide +kernel
theorem dL_bestByAll_9 : decode cL_bestByAll 9 = .ok (.goto 9, 3) := by decide +kernel
theorem dL_bestByAll_12 : decode cL_bestByAll 12 = .ok (.astore_n 3, 1) := by decide +kernel
theorem dL_bestByAll_13 : decode cL_bestByAll 13 = .ok (.iconst 1, 1) := by decide +kernel
theorem dL_bestByAll_14 : decode cL_bestByAll 14 = .ok (.ireturn, 1) := by decide +kernel
theorem dL_bestByAll_15 : decode cL_bestByAll 15 = .ok (.astore_n 3, 1) := by decide +kernel
theorem dL_bestByAll_16 : decode cL_bestByAll 16 = .ok (.iconst 2, 1) := by decide +kernel
theorem dL_bestByAll_17 : decode cL_bestByAll 17 = .ok (.ireturn, 1) := by decide +kernel
theorem dL_bestByAll_18 : decode cL_bestByAll 18 = .ok (.iconst 0, 1) := by decide +kernel
theorem dL_bestByAll_19 : decode cL_bestByAll 19 = .ok (.ireturn, 1) := by decide +kernel
theorem dL_planned_0 : decode cL_planned 0 = .ok (.aload_n 3, 1) := by decide +kernel
theorem dL_planned_1 : decode cL_planned 1 = .ok (.iconst 0, 1) := by decide +kernel
theorem dL_planned_2 : decode cL_planned 2 = .ok (.aload_n 0, 1) := by decide +kernel
theorem dL_planned_3 : decode cL_planned 3 = .ok (.iload_n 1, 1) := by decide +kernel
theorem dL_planned_4 : decode cL_planned 4 = .ok (.iload_n 2, 1) := by decide +kernel
theorem dL_planned_5 : decode cL_planned 5 = .ok (.invokevirtual 64, 3) := by decide +kernel
theorem dL_planned_8 : decode cL_planned 8 = .ok (.i2l, 1) := by decide +kernel
theorem dL_planned_9 : decode cL_planned 9 = .ok (.lastore, 1) := by decide +kernel
theorem dL_planned_10 : decode cL_planned 10 = .ok (.goto 7, 3) := by decide +kernel
theorem dL_planned_13 : decode cL_planned 13 = .ok (.astore 4, 2) := by decide +kernel
theorem dL_planned_15 : decode cL_planned 15 = .ok (.iconst 1, 1) := by decide +kernel
theorem dL_planned_16 : decode cL_planned 16 = .ok (.ireturn, 1) := by decide +kernel
theorem dL_planned_17 : decode cL_planned 17 = .ok (.iconst 0, 1) := by decide +kernel
theorem dL_planned_18 : decode cL_planned 18 = .ok (.ireturn, 1) := by decide +kernel
theorem dL_bestLeaving_0 : decode cL_bestLeaving 0 = .ok (.aload_n 3, 1) := by decide +kernel
theorem dL_bestLeaving_1 : decode cL_bestLeaving 1 = .ok (.iconst 0, 1) := by decide +kernel
theorem dL_bestLeaving_2 : decode cL_bestLeaving 2 = .ok (.aload_n 0, 1) := by decide +kernel
theorem dL_bestLeaving_3 : decode cL_bestLeaving 3 = .ok (.iload_n 1, 1) := by decide +kernel
theorem dL_bestLeaving_4 : decode cL_bestLeaving 4 = .ok (.iload_n 2, 1) := by decide +kernel
theorem dL_bestLeaving_5 : decode cL_bestLeaving 5 = .ok (.invokevirtual 67, 3) := by decide +kernel
theorem dL_bestLeaving_8 : decode cL_bestLeaving 8 = .ok (.i2l, 1) := by decide +kernel
theorem dL_bestLeaving_9 : decode cL_bestLeaving 9 = .ok (.lastore, 1) := by decide +kernel
theorem dL_bestLeaving_10 : decode cL_bestLeaving 10 = .ok (.goto 7, 3) := by decide +kernel
theorem dL_bestLeaving_13 : decode cL_bestLeaving 13 = .ok (.astore 4, 2) := by decide +kernel
theorem dL_bestLeaving_15 : decode cL_bestLeaving 15 = .ok (.iconst 1, 1) := by decide +kernel
theorem dL_bestLeaving_16 : decode cL_bestLeaving 16 = .ok (.ireturn, 1) := by decide +kernel
theorem dL_bestLeaving_17 : decode cL_bestLeaving 17 = .ok (.iconst 0, 1) := by decide +kernel
theorem dL_bestLeaving_18 : decode cL_bestLeaving 18 = .ok (.ireturn, 1) := by decide +kernel
end
section
theorem dL_law_0 : decode cL_law 0 = .ok (.new 8, 3) := by decide +kernel
theorem dL_law_3 : decode cL_law 3 = .ok (.dup, 1) := by decide +kernel
theorem dL_law_4 : decode cL_law 4 = .ok (.invokespecial 70, 3) := by decide +kernel
theorem dL_law_7 : decode cL_law 7 = .ok (.astore_n 1, 1) := by decide +kernel
theorem dL_law_8 : decode cL_law 8 = .ok (.new 71, 3) := by decide +kernel
theorem dL_law_11 : decode cL_law 11 = .ok (.dup, 1) := by decide +kernel
theorem dL_law_12 : decode cL_law 12 = .ok (.invokespecial 73, 3) := by decide +kernel
theorem dL_law_15 : decode cL_law 15 = .ok (.astore_n 2, 1) := by decide +kernel
theorem dL_law_16 : decode cL_law 16 = .ok (.iconst 1, 1) := by decide +kernel
theorem dL_law_17 : decode cL_law 17 = .ok (.newarray .long, 2) := by decide +kernel
theorem dL_law_19 : decode cL_law 19 = .ok (.astore_n 3, 1) := by decide +kernel
theorem dL_law_20 : decode cL_law 20 = .ok (.iconst 0, 1) := by decide +kernel
theorem dL_law_21 : decode cL_law 21 = .ok (.istore 4, 2) := by decide +kernel
theorem dL_law_23 : decode cL_law 23 = .ok (.iload 4, 2) := by decide +kernel
theorem dL_law_25 : decode cL_law 25 = .ok (.aload_n 0, 1) := by decide +kernel
theorem dL_law_26 : decode cL_law 26 = .ok (.arraylength, 1) := by decide +kernel
theorem dL_law_27 : decode cL_law 27 = .ok (.iconst 5, 1) := by decide +kernel
theorem dL_law_28 : decode cL_law 28 = .ok (.isub, 1) := by decide +kernel
theorem dL_law_29 : decode cL_law 29 = .ok (.if_icmp .gt 1231, 3) := by decide +kernel
theorem dL_law_32 : decode cL_law 32 = .ok (.aload_n 0, 1) := by decide +kernel
theorem dL_law_33 : decode cL_law 33 = .ok (.iload 4, 2) := by decide +kernel
theorem dL_law_35 : decode cL_law 35 = .ok (.iaload, 1) := by decide +kernel
theorem dL_law_36 : decode cL_law 36 = .ok (.bipush 31, 2) := by decide +kernel
theorem dL_law_38 : decode cL_law 38 = .ok (.iand, 1) := by decide +kernel
theorem dL_law_39 : decode cL_law 39 = .ok (.tableswitch 1215 0 18 #[89, 145, 213, 293, 353, 433, 501, 593, 637, 650, 718, 774, 830, 886, 899, 967, 1023, 1079, 1147], 89) := by decide +kernel
theorem dL_law_128 : decode cL_law 128 = .ok (.aload_n 1, 1) := by decide +kernel
theorem dL_law_129 : decode cL_law 129 = .ok (.aload_n 0, 1) := by decide +kernel
theorem dL_law_130 : decode cL_law 130 = .ok (.iload 4, 2) := by decide +kernel
theorem dL_law_132 : decode cL_law 132 = .ok (.iconst 1, 1) := by decide +kernel
theorem dL_law_133 : decode cL_law 133 = .ok (.iadd, 1) := by decide +kernel
theorem dL_law_134 : decode cL_law 134 = .ok (.iaload, 1) := by decide +kernel
theorem dL_law_135 : decode cL_law 135 = .ok (.aload_n 3, 1) := by decide +kernel
theorem dL_law_136 : decode cL_law 136 = .ok (.invokestatic 74, 3) := by decide +kernel
theorem dL_law_139 : decode cL_law 139 = .ok (.istore 5, 2) := by decide +kernel
theorem dL_law_141 : decode cL_law 141 = .ok (.aload_n 2, 1) := by decide +kernel
theorem dL_law_142 : decode cL_law 142 = .ok (.aload_n 0, 1) := by decide +kernel
theorem dL_law_143 : decode cL_law 143 = .ok (.iload 4, 2) := by decide +kernel
theorem dL_law_145 : decode cL_law 145 = .ok (.iconst 1, 1) := by decide +kernel
theorem dL_law_146 : decode cL_law 146 = .ok (.iadd, 1) := by decide +kernel
theorem dL_law_147 : decode cL_law 147 = .ok (.iaload, 1) := by decide +kernel
theorem dL_law_148 : decode cL_law 148 = .ok (.invokevirtual 79, 3) := by decide +kernel
theorem dL_law_151 : decode cL_law 151 = .ok (.istore 6, 2) := by decide +kernel
theorem dL_law_153 : decode cL_law 153 = .ok (.aload_n 2, 1) := by decide +kernel
theorem dL_law_154 : decode cL_law 154 = .ok (.invokevirtual 80, 3) := by decide +kernel
theorem dL_law_157 : decode cL_law 157 = .ok (.iload 5, 2) := by decide +kernel
theorem dL_law_159 : decode cL_law 159 = .ok (.if_icmp .eq 5, 3) := by decide +kernel
theorem dL_law_162 : decode cL_law 162 = .ok (.iconst 0, 1) := by decide +kernel
theorem dL_law_163 : decode cL_law 163 = .ok (.ireturn, 1) := by decide +kernel
theorem dL_law_164 : decode cL_law 164 = .ok (.iload 5, 2) := by decide +kernel
theorem dL_law_166 : decode cL_law 166 = .ok (.ifCond .ne 15, 3) := by decide +kernel
theorem dL_law_169 : decode cL_law 169 = .ok (.aload_n 3, 1) := by decide +kernel
theorem dL_law_170 : decode cL_law 170 = .ok (.iconst 0, 1) := by decide +kernel
theorem dL_law_171 : decode cL_law 171 = .ok (.laload, 1) := by decide +kernel
theorem dL_law_172 : decode cL_law 172 = .ok (.iload 6, 2) := by decide +kernel
theorem dL_law_174 : decode cL_law 174 = .ok (.i2l, 1) := by decide +kernel
theorem dL_law_175 : decode cL_law 175 = .ok (.lcmp, 1) := by decide +kernel
theorem dL_law_176 : decode cL_law 176 = .ok (.ifCond .eq 5, 3) := by decide +kernel
theorem dL_law_179 : decode cL_law 179 = .ok (.iconst 0, 1) := by decide +kernel
theorem dL_law_180 : decode cL_law 180 = .ok (.ireturn, 1) := by decide +kernel
theorem dL_law_181 : decode cL_law 181 = .ok (.goto 1073, 3) := by decide +kernel
theorem dL_law_184 : decode cL_law 184 = .ok (.aload_n 1, 1) := by decide +kernel
theorem dL_law_185 : decode cL_law 185 = .ok (.aload_n 0, 1) := by decide +kernel
theorem dL_law_186 : decode cL_law 186 = .ok (.iload 4, 2) := by decide +kernel
theorem dL_law_188 : decode cL_law 188 = .ok (.iconst 1, 1) := by decide +kernel
theorem dL_law_189 : decode cL_law 189 = .ok (.iadd, 1) := by decide +kernel
theorem dL_law_190 : decode cL_law 190 = .ok (.iaload, 1) := by decide +kernel
theorem dL_law_191 : decode cL_law 191 = .ok (.aload_n 0, 1) := by decide +kernel
theorem dL_law_192 : decode cL_law 192 = .ok (.iload 4, 2) := by decide +kernel
theorem dL_law_194 : decode cL_law 194 = .ok (.iconst 2, 1) := by decide +kernel
theorem dL_law_195 : decode cL_law 195 = .ok (.iadd, 1) := by decide +kernel
theorem dL_law_196 : decode cL_law 196 = .ok (.iaload, 1) := by decide +kernel
theorem dL_law_197 : decode cL_law 197 = .ok (.aload_n 3, 1) := by decide +kernel
theorem dL_law_198 : decode cL_law 198 = .ok (.invokestatic 83, 3) := by decide +kernel
theorem dL_law_201 : decode cL_law 201 = .ok (.istore 5, 2) := by decide +kernel
theorem dL_law_203 : decode cL_law 203 = .ok (.aload_n 2, 1) := by decide +kernel
theorem dL_law_204 : decode cL_law 204 = .ok (.aload_n 0, 1) := by decide +kernel
theorem dL_law_205 : decode cL_law 205 = .ok (.iload 4, 2) := by decide +kernel
theorem dL_law_207 : decode cL_law 207 = .ok (.iconst 1, 1) := by decide +kernel
theorem dL_law_208 : decode cL_law 208 = .ok (.iadd, 1) := by decide +kernel
theorem dL_law_209 : decode cL_law 209 = .ok (.iaload, 1) := by decide +kernel
theorem dL_law_210 : decode cL_law 210 = .ok (.aload_n 0, 1) := by decide +kernel
theorem dL_law_211 : decode cL_law 211 = .ok (.iload 4, 2) := by decide +kernel
theorem dL_law_213 : decode cL_law 213 = .ok (.iconst 2, 1) := by decide +kernel
theorem dL_law_214 : decode cL_law 214 = .ok (.iadd, 1) := by decide +kernel
theorem dL_law_215 : decode cL_law 215 = .ok (.iaload, 1) := by decide +kernel
theorem dL_law_216 : decode cL_law 216 = .ok (.invokevirtual 86, 3) := by decide +kernel
theorem dL_law_219 : decode cL_law 219 = .ok (.istore 6, 2) := by decide +kernel
theorem dL_law_221 : decode cL_law 221 = .ok (.aload_n 2, 1) := by decide +kernel
theorem dL_law_222 : decode cL_law 222 = .ok (.invokevirtual 80, 3) := by decide +kernel
theorem dL_law_225 : decode cL_law 225 = .ok (.iload 5, 2) := by decide +kernel
theorem dL_law_227 : decode cL_law 227 = .ok (.if_icmp .eq 5, 3) := by decide +kernel
theorem dL_law_230 : decode cL_law 230 = .ok (.iconst 0, 1) := by decide +kernel
theorem dL_law_231 : decode cL_law 231 = .ok (.ireturn, 1) := by decide +kernel
theorem dL_law_232 : decode cL_law 232 = .ok (.iload 5, 2) := by decide +kernel
theorem dL_law_234 : decode cL_law 234 = .ok (.ifCond .ne 15, 3) := by decide +kernel
theorem dL_law_237 : decode cL_law 237 = .ok (.aload_n 3, 1) := by decide +kernel
theorem dL_law_238 : decode cL_law 238 = .ok (.iconst 0, 1) := by decide +kernel
theorem dL_law_239 : decode cL_law 239 = .ok (.laload, 1) := by decide +kernel
theorem dL_law_240 : decode cL_law 240 = .ok (.iload 6, 2) := by decide +kernel
theorem dL_law_242 : decode cL_law 242 = .ok (.i2l, 1) := by decide +kernel
theorem dL_law_243 : decode cL_law 243 = .ok (.lcmp, 1) := by decide +kernel
theorem dL_law_244 : decode cL_law 244 = .ok (.ifCond .eq 5, 3) := by decide +kernel
theorem dL_law_247 : decode cL_law 247 = .ok (.iconst 0, 1) := by decide +kernel
theorem dL_law_248 : decode cL_law 248 = .ok (.ireturn, 1) := by decide +kernel
theorem dL_law_249 : decode cL_law 249 = .ok (.goto 1005, 3) := by decide +kernel
theorem dL_law_252 : decode cL_law 252 = .ok (.aload_n 1, 1) := by decide +kernel
theorem dL_law_253 : decode cL_law 253 = .ok (.aload_n 0, 1) := by decide +kernel
theorem dL_law_254 : decode cL_law 254 = .ok (.iload 4, 2) := by decide +kernel
theorem dL_law_256 : decode cL_law 256 = .ok (.iconst 1, 1) := by decide +kernel
theorem dL_law_257 : decode cL_law 257 = .ok (.iadd, 1) := by decide +kernel
theorem dL_law_258 : decode cL_law 258 = .ok (.iaload, 1) := by decide +kernel
theorem dL_law_259 : decode cL_law 259 = .ok (.aload_n 0, 1) := by decide +kernel
theorem dL_law_260 : decode cL_law 260 = .ok (.iload 4, 2) := by decide +kernel
theorem dL_law_262 : decode cL_law 262 = .ok (.iconst 2, 1) := by decide +kernel
theorem dL_law_263 : decode cL_law 263 = .ok (.iadd, 1) := by decide +kernel
theorem dL_law_264 : decode cL_law 264 = .ok (.iaload, 1) := by decide +kernel
theorem dL_law_265 : decode cL_law 265 = .ok (.aload_n 0, 1) := by decide +kernel
theorem dL_law_266 : decode cL_law 266 = .ok (.iload 4, 2) := by decide +kernel
theorem dL_law_268 : decode cL_law 268 = .ok (.iconst 3, 1) := by decide +kernel
theorem dL_law_269 : decode cL_law 269 = .ok (.iadd, 1) := by decide +kernel
theorem dL_law_270 : decode cL_law 270 = .ok (.iaload, 1) := by decide +kernel
theorem dL_law_271 : decode cL_law 271 = .ok (.aload_n 3, 1) := by decide +kernel
theorem dL_law_272 : decode cL_law 272 = .ok (.invokestatic 87, 3) := by decide +kernel
theorem dL_law_275 : decode cL_law 275 = .ok (.istore 5, 2) := by decide +kernel
theorem dL_law_277 : decode cL_law 277 = .ok (.aload_n 2, 1) := by decide +kernel
theorem dL_law_278 : decode cL_law 278 = .ok (.aload_n 0, 1) := by decide +kernel
theorem dL_law_279 : decode cL_law 279 = .ok (.iload 4, 2) := by decide +kernel
theorem dL_law_281 : decode cL_law 281 = .ok (.iconst 1, 1) := by decide +kernel
theorem dL_law_282 : decode cL_law 282 = .ok (.iadd, 1) := by decide +kernel
theorem dL_law_283 : decode cL_law 283 = .ok (.iaload, 1) := by decide +kernel
theorem dL_law_284 : decode cL_law 284 = .ok (.aload_n 0, 1) := by decide +kernel
theorem dL_law_285 : decode cL_law 285 = .ok (.iload 4, 2) := by decide +kernel
theorem dL_law_287 : decode cL_law 287 = .ok (.iconst 2, 1) := by decide +kernel
theorem dL_law_288 : decode cL_law 288 = .ok (.iadd, 1) := by decide +kernel
theorem dL_law_289 : decode cL_law 289 = .ok (.iaload, 1) := by decide +kernel
theorem dL_law_290 : decode cL_law 290 = .ok (.aload_n 0, 1) := by decide +kernel
theorem dL_law_291 : decode cL_law 291 = .ok (.iload 4, 2) := by decide +kernel
theorem dL_law_293 : decode cL_law 293 = .ok (.iconst 3, 1) := by decide +kernel
theorem dL_law_294 : decode cL_law 294 = .ok (.iadd, 1) := by decide +kernel
theorem dL_law_295 : decode cL_law 295 = .ok (.iaload, 1) := by decide +kernel
theorem dL_law_296 : decode cL_law 296 = .ok (.invokevirtual 90, 3) := by decide +kernel
theorem dL_law_299 : decode cL_law 299 = .ok (.istore 6, 2) := by decide +kernel
theorem dL_law_301 : decode cL_law 301 = .ok (.aload_n 2, 1) := by decide +kernel
theorem dL_law_302 : decode cL_law 302 = .ok (.invokevirtual 80, 3) := by decide +kernel
theorem dL_law_305 : decode cL_law 305 = .ok (.iload 5, 2) := by decide +kernel
theorem dL_law_307 : decode cL_law 307 = .ok (.if_icmp .eq 5, 3) := by decide +kernel
theorem dL_law_310 : decode cL_law 310 = .ok (.iconst 0, 1) := by decide +kernel
theorem dL_law_311 : decode cL_law 311 = .ok (.ireturn, 1) := by decide +kernel
theorem dL_law_312 : decode cL_law 312 = .ok (.iload 5, 2) := by decide +kernel
theorem dL_law_314 : decode cL_law 314 = .ok (.ifCond .ne 15, 3) := by decide +kernel
theorem dL_law_317 : decode cL_law 317 = .ok (.aload_n 3, 1) := by decide +kernel
theorem dL_law_318 : decode cL_law 318 = .ok (.iconst 0, 1) := by decide +kernel
theorem dL_law_319 : decode cL_law 319 = .ok (.laload, 1) := by decide +kernel
theorem dL_law_320 : decode cL_law 320 = .ok (.iload 6, 2) := by decide +kernel
theorem dL_law_322 : decode cL_law 322 = .ok (.i2l, 1) := by decide +kernel
theorem dL_law_323 : decode cL_law 323 = .ok (.lcmp, 1) := by decide +kernel
theorem dL_law_324 : decode cL_law 324 = .ok (.ifCond .eq 5, 3) := by decide +kernel
theorem dL_law_327 : decode cL_law 327 = .ok (.iconst 0, 1) := by decide +kernel
theorem dL_law_328 : decode cL_law 328 = .ok (.ireturn, 1) := by decide +kernel
theorem dL_law_329 : decode cL_law 329 = .ok (.goto 925, 3) := by decide +kernel
theorem dL_law_332 : decode cL_law 332 = .ok (.aload_n 1, 1) := by decide +kernel
theorem dL_law_333 : decode cL_law 333 = .ok (.aload_n 0, 1) := by decide +kernel
theorem dL_law_334 : decode cL_law 334 = .ok (.iload 4, 2) := by decide +kernel
theorem dL_law_336 : decode cL_law 336 = .ok (.iconst 1, 1) := by decide +kernel
theorem dL_law_337 : decode cL_law 337 = .ok (.iadd, 1) := by decide +kernel
theorem dL_law_338 : decode cL_law 338 = .ok (.iaload, 1) := by decide +kernel
theorem dL_law_339 : decode cL_law 339 = .ok (.aload_n 0, 1) := by decide +kernel
theorem dL_law_340 : decode cL_law 340 = .ok (.iload 4, 2) := by decide +kernel
theorem dL_law_342 : decode cL_law 342 = .ok (.iconst 2, 1) := by decide +kernel
theorem dL_law_343 : decode cL_law 343 = .ok (.iadd, 1) := by decide +kernel
theorem dL_law_344 : decode cL_law 344 = .ok (.iaload, 1) := by decide +kernel
theorem dL_law_345 : decode cL_law 345 = .ok (.aload_n 0, 1) := by decide +kernel
theorem dL_law_346 : decode cL_law 346 = .ok (.iload 4, 2) := by decide +kernel
theorem dL_law_348 : decode cL_law 348 = .ok (.iconst 3, 1) := by decide +kernel
theorem dL_law_349 : decode cL_law 349 = .ok (.iadd, 1) := by decide +kernel
theorem dL_law_350 : decode cL_law 350 = .ok (.iaload, 1) := by decide +kernel
theorem dL_law_351 : decode cL_law 351 = .ok (.invokestatic 91, 3) := by decide +kernel
theorem dL_law_354 : decode cL_law 354 = .ok (.istore 5, 2) := by decide +kernel
theorem dL_law_356 : decode cL_law 356 = .ok (.aload_n 2, 1) := by decide +kernel
theorem dL_law_357 : decode cL_law 357 = .ok (.aload_n 0, 1) := by decide +kernel
theorem dL_law_358 : decode cL_law 358 = .ok (.iload 4, 2) := by decide +kernel
theorem dL_law_360 : decode cL_law 360 = .ok (.iconst 1, 1) := by decide +kernel
theorem dL_law_361 : decode cL_law 361 = .ok (.iadd, 1) := by decide +kernel
theorem dL_law_362 : decode cL_law 362 = .ok (.iaload, 1) := by decide +kernel
theorem dL_law_363 : decode cL_law 363 = .ok (.aload_n 0, 1) := by decide +kernel
theorem dL_law_364 : decode cL_law 364 = .ok (.iload 4, 2) := by decide +kernel
theorem dL_law_366 : decode cL_law 366 = .ok (.iconst 2, 1) := by decide +kernel
theorem dL_law_367 : decode cL_law 367 = .ok (.iadd, 1) := by decide +kernel
theorem dL_law_368 : decode cL_law 368 = .ok (.iaload, 1) := by decide +kernel
theorem dL_law_369 : decode cL_law 369 = .ok (.aload_n 0, 1) := by decide +kernel
theorem dL_law_370 : decode cL_law 370 = .ok (.iload 4, 2) := by decide +kernel
theorem dL_law_372 : decode cL_law 372 = .ok (.iconst 3, 1) := by decide +kernel
theorem dL_law_373 : decode cL_law 373 = .ok (.iadd, 1) := by decide +kernel
theorem dL_law_374 : decode cL_law 374 = .ok (.iaload, 1) := by decide +kernel
theorem dL_law_375 : decode cL_law 375 = .ok (.invokevirtual 94, 3) := by decide +kernel
theorem dL_law_378 : decode cL_law 378 = .ok (.aload_n 2, 1) := by decide +kernel
theorem dL_law_379 : decode cL_law 379 = .ok (.invokevirtual 80, 3) := by decide +kernel
theorem dL_law_382 : decode cL_law 382 = .ok (.iload 5, 2) := by decide +kernel
theorem dL_law_384 : decode cL_law 384 = .ok (.if_icmp .eq 5, 3) := by decide +kernel
theorem dL_law_387 : decode cL_law 387 = .ok (.iconst 0, 1) := by decide +kernel
theorem dL_law_388 : decode cL_law 388 = .ok (.ireturn, 1) := by decide +kernel
theorem dL_law_389 : decode cL_law 389 = .ok (.goto 865, 3) := by decide +kernel
theorem dL_law_392 : decode cL_law 392 = .ok (.aload_n 1, 1) := by decide +kernel
theorem dL_law_393 : decode cL_law 393 = .ok (.aload_n 0, 1) := by decide +kernel
theorem dL_law_394 : decode cL_law 394 = .ok (.iload 4, 2) := by decide +kernel
theorem dL_law_396 : decode cL_law 396 = .ok (.iconst 1, 1) := by decide +kernel
theorem dL_law_397 : decode cL_law 397 = .ok (.iadd, 1) := by decide +kernel
theorem dL_law_398 : decode cL_law 398 = .ok (.iaload, 1) := by decide +kernel
theorem dL_law_399 : decode cL_law 399 = .ok (.aload_n 0, 1) := by decide +kernel
theorem dL_law_400 : decode cL_law 400 = .ok (.iload 4, 2) := by decide +kernel
theorem dL_law_402 : decode cL_law 402 = .ok (.iconst 2, 1) := by decide +kernel
theorem dL_law_403 : decode cL_law 403 = .ok (.iadd, 1) := by decide +kernel
theorem dL_law_404 : decode cL_law 404 = .ok (.iaload, 1) := by decide +kernel
theorem dL_law_405 : decode cL_law 405 = .ok (.aload_n 0, 1) := by decide +kernel
theorem dL_law_406 : decode cL_law 406 = .ok (.iload 4, 2) := by decide +kernel
theorem dL_law_408 : decode cL_law 408 = .ok (.iconst 3, 1) := by decide +kernel
theorem dL_law_409 : decode cL_law 409 = .ok (.iadd, 1) := by decide +kernel
theorem dL_law_410 : decode cL_law 410 = .ok (.iaload, 1) := by decide +kernel
theorem dL_law_411 : decode cL_law 411 = .ok (.aload_n 3, 1) := by decide +kernel
theorem dL_law_412 : decode cL_law 412 = .ok (.invokestatic 95, 3) := by decide +kernel
theorem dL_law_415 : decode cL_law 415 = .ok (.istore 5, 2) := by decide +kernel
theorem dL_law_417 : decode cL_law 417 = .ok (.aload_n 2, 1) := by decide +kernel
theorem dL_law_418 : decode cL_law 418 = .ok (.aload_n 0, 1) := by decide +kernel
theorem dL_law_419 : decode cL_law 419 = .ok (.iload 4, 2) := by decide +kernel
theorem dL_law_421 : decode cL_law 421 = .ok (.iconst 1, 1) := by decide +kernel
theorem dL_law_422 : decode cL_law 422 = .ok (.iadd, 1) := by decide +kernel
theorem dL_law_423 : decode cL_law 423 = .ok (.iaload, 1) := by decide +kernel
theorem dL_law_424 : decode cL_law 424 = .ok (.aload_n 0, 1) := by decide +kernel
theorem dL_law_425 : decode cL_law 425 = .ok (.iload 4, 2) := by decide +kernel
theorem dL_law_427 : decode cL_law 427 = .ok (.iconst 2, 1) := by decide +kernel
theorem dL_law_428 : decode cL_law 428 = .ok (.iadd, 1) := by decide +kernel
theorem dL_law_429 : decode cL_law 429 = .ok (.iaload, 1) := by decide +kernel
theorem dL_law_430 : decode cL_law 430 = .ok (.aload_n 0, 1) := by decide +kernel
theorem dL_law_431 : decode cL_law 431 = .ok (.iload 4, 2) := by decide +kernel
theorem dL_law_433 : decode cL_law 433 = .ok (.iconst 3, 1) := by decide +kernel
theorem dL_law_434 : decode cL_law 434 = .ok (.iadd, 1) := by decide +kernel
theorem dL_law_435 : decode cL_law 435 = .ok (.iaload, 1) := by decide +kernel
theorem dL_law_436 : decode cL_law 436 = .ok (.invokevirtual 97, 3) := by decide +kernel
theorem dL_law_439 : decode cL_law 439 = .ok (.istore 6, 2) := by decide +kernel
theorem dL_law_441 : decode cL_law 441 = .ok (.aload_n 2, 1) := by decide +kernel
theorem dL_law_442 : decode cL_law 442 = .ok (.invokevirtual 80, 3) := by decide +kernel
theorem dL_law_445 : decode cL_law 445 = .ok (.iload 5, 2) := by decide +kernel
theorem dL_law_447 : decode cL_law 447 = .ok (.if_icmp .eq 5, 3) := by decide +kernel
theorem dL_law_450 : decode cL_law 450 = .ok (.iconst 0, 1) := by decide +kernel
theorem dL_law_451 : decode cL_law 451 = .ok (.ireturn, 1) := by decide +kernel
theorem dL_law_452 : decode cL_law 452 = .ok (.iload 5, 2) := by decide +kernel
theorem dL_law_454 : decode cL_law 454 = .ok (.ifCond .ne 15, 3) := by decide +kernel
theorem dL_law_457 : decode cL_law 457 = .ok (.aload_n 3, 1) := by decide +kernel
theorem dL_law_458 : decode cL_law 458 = .ok (.iconst 0, 1) := by decide +kernel
theorem dL_law_459 : decode cL_law 459 = .ok (.laload, 1) := by decide +kernel
theorem dL_law_460 : decode cL_law 460 = .ok (.iload 6, 2) := by decide +kernel
theorem dL_law_462 : decode cL_law 462 = .ok (.i2l, 1) := by decide +kernel
theorem dL_law_463 : decode cL_law 463 = .ok (.lcmp, 1) := by decide +kernel
theorem dL_law_464 : decode cL_law 464 = .ok (.ifCond .eq 5, 3) := by decide +kernel
theorem dL_law_467 : decode cL_law 467 = .ok (.iconst 0, 1) := by decide +kernel
theorem dL_law_468 : decode cL_law 468 = .ok (.ireturn, 1) := by decide +kernel
theorem dL_law_469 : decode cL_law 469 = .ok (.goto 785, 3) := by decide +kernel
theorem dL_law_472 : decode cL_law 472 = .ok (.aload_n 1, 1) := by decide +kernel
theorem dL_law_473 : decode cL_law 473 = .ok (.aload_n 0, 1) := by decide +kernel
theorem dL_law_474 : decode cL_law 474 = .ok (.iload 4, 2) := by decide +kernel
theorem dL_law_476 : decode cL_law 476 = .ok (.iconst 1, 1) := by decide +kernel
theorem dL_law_477 : decode cL_law 477 = .ok (.iadd, 1) := by decide +kernel
theorem dL_law_478 : decode cL_law 478 = .ok (.iaload, 1) := by decide +kernel
theorem dL_law_479 : decode cL_law 479 = .ok (.aload_n 0, 1) := by decide +kernel
theorem dL_law_480 : decode cL_law 480 = .ok (.iload 4, 2) := by decide +kernel
theorem dL_law_482 : decode cL_law 482 = .ok (.iconst 2, 1) := by decide +kernel
theorem dL_law_483 : decode cL_law 483 = .ok (.iadd, 1) := by decide +kernel
theorem dL_law_484 : decode cL_law 484 = .ok (.iaload, 1) := by decide +kernel
theorem dL_law_485 : decode cL_law 485 = .ok (.aload_n 3, 1) := by decide +kernel
theorem dL_law_486 : decode cL_law 486 = .ok (.invokestatic 98, 3) := by decide +kernel
theorem dL_law_489 : decode cL_law 489 = .ok (.istore 5, 2) := by decide +kernel
theorem dL_law_491 : decode cL_law 491 = .ok (.aload_n 2, 1) := by decide +kernel
theorem dL_law_492 : decode cL_law 492 = .ok (.aload_n 0, 1) := by decide +kernel
theorem dL_law_493 : decode cL_law 493 = .ok (.iload 4, 2) := by decide +kernel
theorem dL_law_495 : decode cL_law 495 = .ok (.iconst 1, 1) := by decide +kernel
theorem dL_law_496 : decode cL_law 496 = .ok (.iadd, 1) := by decide +kernel
theorem dL_law_497 : decode cL_law 497 = .ok (.iaload, 1) := by decide +kernel
theorem dL_law_498 : decode cL_law 498 = .ok (.aload_n 0, 1) := by decide +kernel
theorem dL_law_499 : decode cL_law 499 = .ok (.iload 4, 2) := by decide +kernel
theorem dL_law_501 : decode cL_law 501 = .ok (.iconst 2, 1) := by decide +kernel
theorem dL_law_502 : decode cL_law 502 = .ok (.iadd, 1) := by decide +kernel
theorem dL_law_503 : decode cL_law 503 = .ok (.iaload, 1) := by decide +kernel
theorem dL_law_504 : decode cL_law 504 = .ok (.invokevirtual 100, 3) := by decide +kernel
theorem dL_law_507 : decode cL_law 507 = .ok (.istore 6, 2) := by decide +kernel
theorem dL_law_509 : decode cL_law 509 = .ok (.aload_n 2, 1) := by decide +kernel
theorem dL_law_510 : decode cL_law 510 = .ok (.invokevirtual 80, 3) := by decide +kernel
theorem dL_law_513 : decode cL_law 513 = .ok (.iload 5, 2) := by decide +kernel
theorem dL_law_515 : decode cL_law 515 = .ok (.if_icmp .eq 5, 3) := by decide +kernel
theorem dL_law_518 : decode cL_law 518 = .ok (.iconst 0, 1) := by decide +kernel
theorem dL_law_519 : decode cL_law 519 = .ok (.ireturn, 1) := by decide +kernel
theorem dL_law_520 : decode cL_law 520 = .ok (.iload 5, 2) := by decide +kernel
theorem dL_law_522 : decode cL_law 522 = .ok (.ifCond .ne 15, 3) := by decide +kernel
theorem dL_law_525 : decode cL_law 525 = .ok (.aload_n 3, 1) := by decide +kernel
theorem dL_law_526 : decode cL_law 526 = .ok (.iconst 0, 1) := by decide +kernel
theorem dL_law_527 : decode cL_law 527 = .ok (.laload, 1) := by decide +kernel
theorem dL_law_528 : decode cL_law 528 = .ok (.iload 6, 2) := by decide +kernel
theorem dL_law_530 : decode cL_law 530 = .ok (.i2l, 1) := by decide +kernel
theorem dL_law_531 : decode cL_law 531 = .ok (.lcmp, 1) := by decide +kernel
theorem dL_law_532 : decode cL_law 532 = .ok (.ifCond .eq 5, 3) := by decide +kernel
theorem dL_law_535 : decode cL_law 535 = .ok (.iconst 0, 1) := by decide +kernel
theorem dL_law_536 : decode cL_law 536 = .ok (.ireturn, 1) := by decide +kernel
theorem dL_law_537 : decode cL_law 537 = .ok (.goto 717, 3) := by decide +kernel
theorem dL_law_540 : decode cL_law 540 = .ok (.aload_n 1, 1) := by decide +kernel
theorem dL_law_541 : decode cL_law 541 = .ok (.aload_n 0, 1) := by decide +kernel
theorem dL_law_542 : decode cL_law 542 = .ok (.iload 4, 2) := by decide +kernel
theorem dL_law_544 : decode cL_law 544 = .ok (.iconst 1, 1) := by decide +kernel
theorem dL_law_545 : decode cL_law 545 = .ok (.iadd, 1) := by decide +kernel
theorem dL_law_546 : decode cL_law 546 = .ok (.iaload, 1) := by decide +kernel
theorem dL_law_547 : decode cL_law 547 = .ok (.aload_n 0, 1) := by decide +kernel
theorem dL_law_548 : decode cL_law 548 = .ok (.iload 4, 2) := by decide +kernel
theorem dL_law_550 : decode cL_law 550 = .ok (.iconst 2, 1) := by decide +kernel
theorem dL_law_551 : decode cL_law 551 = .ok (.iadd, 1) := by decide +kernel
theorem dL_law_552 : decode cL_law 552 = .ok (.iaload, 1) := by decide +kernel
theorem dL_law_553 : decode cL_law 553 = .ok (.aload_n 0, 1) := by decide +kernel
theorem dL_law_554 : decode cL_law 554 = .ok (.iload 4, 2) := by decide +kernel
theorem dL_law_556 : decode cL_law 556 = .ok (.iconst 3, 1) := by decide +kernel
theorem dL_law_557 : decode cL_law 557 = .ok (.iadd, 1) := by decide +kernel
theorem dL_law_558 : decode cL_law 558 = .ok (.iaload, 1) := by decide +kernel
theorem dL_law_559 : decode cL_law 559 = .ok (.aload_n 0, 1) := by decide +kernel
theorem dL_law_560 : decode cL_law 560 = .ok (.iload 4, 2) := by decide +kernel
theorem dL_law_562 : decode cL_law 562 = .ok (.iconst 4, 1) := by decide +kernel
theorem dL_law_563 : decode cL_law 563 = .ok (.iadd, 1) := by decide +kernel
theorem dL_law_564 : decode cL_law 564 = .ok (.iaload, 1) := by decide +kernel
theorem dL_law_565 : decode cL_law 565 = .ok (.aload_n 3, 1) := by decide +kernel
theorem dL_law_566 : decode cL_law 566 = .ok (.invokestatic 101, 3) := by decide +kernel
theorem dL_law_569 : decode cL_law 569 = .ok (.istore 5, 2) := by decide +kernel
theorem dL_law_571 : decode cL_law 571 = .ok (.aload_n 2, 1) := by decide +kernel
theorem dL_law_572 : decode cL_law 572 = .ok (.aload_n 0, 1) := by decide +kernel
theorem dL_law_573 : decode cL_law 573 = .ok (.iload 4, 2) := by decide +kernel
theorem dL_law_575 : decode cL_law 575 = .ok (.iconst 1, 1) := by decide +kernel
theorem dL_law_576 : decode cL_law 576 = .ok (.iadd, 1) := by decide +kernel
theorem dL_law_577 : decode cL_law 577 = .ok (.iaload, 1) := by decide +kernel
theorem dL_law_578 : decode cL_law 578 = .ok (.aload_n 0, 1) := by decide +kernel
theorem dL_law_579 : decode cL_law 579 = .ok (.iload 4, 2) := by decide +kernel
theorem dL_law_581 : decode cL_law 581 = .ok (.iconst 2, 1) := by decide +kernel
theorem dL_law_582 : decode cL_law 582 = .ok (.iadd, 1) := by decide +kernel
theorem dL_law_583 : decode cL_law 583 = .ok (.iaload, 1) := by decide +kernel
theorem dL_law_584 : decode cL_law 584 = .ok (.aload_n 0, 1) := by decide +kernel
theorem dL_law_585 : decode cL_law 585 = .ok (.iload 4, 2) := by decide +kernel
theorem dL_law_587 : decode cL_law 587 = .ok (.iconst 3, 1) := by decide +kernel
theorem dL_law_588 : decode cL_law 588 = .ok (.iadd, 1) := by decide +kernel
theorem dL_law_589 : decode cL_law 589 = .ok (.iaload, 1) := by decide +kernel
theorem dL_law_590 : decode cL_law 590 = .ok (.aload_n 0, 1) := by decide +kernel
theorem dL_law_591 : decode cL_law 591 = .ok (.iload 4, 2) := by decide +kernel
theorem dL_law_593 : decode cL_law 593 = .ok (.iconst 4, 1) := by decide +kernel
theorem dL_law_594 : decode cL_law 594 = .ok (.iadd, 1) := by decide +kernel
theorem dL_law_595 : decode cL_law 595 = .ok (.iaload, 1) := by decide +kernel
theorem dL_law_596 : decode cL_law 596 = .ok (.invokevirtual 104, 3) := by decide +kernel
theorem dL_law_599 : decode cL_law 599 = .ok (.istore 6, 2) := by decide +kernel
theorem dL_law_601 : decode cL_law 601 = .ok (.aload_n 2, 1) := by decide +kernel
theorem dL_law_602 : decode cL_law 602 = .ok (.invokevirtual 80, 3) := by decide +kernel
theorem dL_law_605 : decode cL_law 605 = .ok (.iload 5, 2) := by decide +kernel
theorem dL_law_607 : decode cL_law 607 = .ok (.if_icmp .eq 5, 3) := by decide +kernel
theorem dL_law_610 : decode cL_law 610 = .ok (.iconst 0, 1) := by decide +kernel
theorem dL_law_611 : decode cL_law 611 = .ok (.ireturn, 1) := by decide +kernel
theorem dL_law_612 : decode cL_law 612 = .ok (.iload 5, 2) := by decide +kernel
theorem dL_law_614 : decode cL_law 614 = .ok (.ifCond .ne 15, 3) := by decide +kernel
theorem dL_law_617 : decode cL_law 617 = .ok (.aload_n 3, 1) := by decide +kernel
theorem dL_law_618 : decode cL_law 618 = .ok (.iconst 0, 1) := by decide +kernel
theorem dL_law_619 : decode cL_law 619 = .ok (.laload, 1) := by decide +kernel
theorem dL_law_620 : decode cL_law 620 = .ok (.iload 6, 2) := by decide +kernel
theorem dL_law_622 : decode cL_law 622 = .ok (.i2l, 1) := by decide +kernel
theorem dL_law_623 : decode cL_law 623 = .ok (.lcmp, 1) := by decide +kernel
theorem dL_law_624 : decode cL_law 624 = .ok (.ifCond .eq 5, 3) := by decide +kernel
theorem dL_law_627 : decode cL_law 627 = .ok (.iconst 0, 1) := by decide +kernel
theorem dL_law_628 : decode cL_law 628 = .ok (.ireturn, 1) := by decide +kernel
theorem dL_law_629 : decode cL_law 629 = .ok (.goto 625, 3) := by decide +kernel
theorem dL_law_632 : decode cL_law 632 = .ok (.aload_n 1, 1) := by decide +kernel
theorem dL_law_633 : decode cL_law 633 = .ok (.aload_n 3, 1) := by decide +kernel
theorem dL_law_634 : decode cL_law 634 = .ok (.invokestatic 105, 3) := by decide +kernel
theorem dL_law_637 : decode cL_law 637 = .ok (.istore 5, 2) := by decide +kernel
theorem dL_law_639 : decode cL_law 639 = .ok (.aload_n 2, 1) := by decide +kernel
theorem dL_law_640 : decode cL_law 640 = .ok (.invokevirtual 108, 3) := by decide +kernel
theorem dL_law_643 : decode cL_law 643 = .ok (.istore 6, 2) := by decide +kernel
theorem dL_law_645 : decode cL_law 645 = .ok (.aload_n 2, 1) := by decide +kernel
theorem dL_law_646 : decode cL_law 646 = .ok (.invokevirtual 80, 3) := by decide +kernel
theorem dL_law_649 : decode cL_law 649 = .ok (.iload 5, 2) := by decide +kernel
theorem dL_law_651 : decode cL_law 651 = .ok (.if_icmp .eq 5, 3) := by decide +kernel
theorem dL_law_654 : decode cL_law 654 = .ok (.iconst 0, 1) := by decide +kernel
theorem dL_law_655 : decode cL_law 655 = .ok (.ireturn, 1) := by decide +kernel
theorem dL_law_656 : decode cL_law 656 = .ok (.iload 5, 2) := by decide +kernel
theorem dL_law_658 : decode cL_law 658 = .ok (.ifCond .ne 15, 3) := by decide +kernel
theorem dL_law_661 : decode cL_law 661 = .ok (.aload_n 3, 1) := by decide +kernel
theorem dL_law_662 : decode cL_law 662 = .ok (.iconst 0, 1) := by decide +kernel
theorem dL_law_663 : decode cL_law 663 = .ok (.laload, 1) := by decide +kernel
theorem dL_law_664 : decode cL_law 664 = .ok (.iload 6, 2) := by decide +kernel
theorem dL_law_666 : decode cL_law 666 = .ok (.i2l, 1) := by decide +kernel
theorem dL_law_667 : decode cL_law 667 = .ok (.lcmp, 1) := by decide +kernel
theorem dL_law_668 : decode cL_law 668 = .ok (.ifCond .eq 5, 3) := by decide +kernel
theorem dL_law_671 : decode cL_law 671 = .ok (.iconst 0, 1) := by decide +kernel
theorem dL_law_672 : decode cL_law 672 = .ok (.ireturn, 1) := by decide +kernel
theorem dL_law_673 : decode cL_law 673 = .ok (.goto 581, 3) := by decide +kernel
theorem dL_law_676 : decode cL_law 676 = .ok (.aload_n 1, 1) := by decide +kernel
theorem dL_law_677 : decode cL_law 677 = .ok (.invokevirtual 109, 3) := by decide +kernel
theorem dL_law_680 : decode cL_law 680 = .ok (.aload_n 2, 1) := by decide +kernel
theorem dL_law_681 : decode cL_law 681 = .ok (.invokevirtual 112, 3) := by decide +kernel
theorem dL_law_684 : decode cL_law 684 = .ok (.if_icmp .eq 570, 3) := by decide +kernel
theorem dL_law_687 : decode cL_law 687 = .ok (.iconst 0, 1) := by decide +kernel
theorem dL_law_688 : decode cL_law 688 = .ok (.ireturn, 1) := by decide +kernel
theorem dL_law_689 : decode cL_law 689 = .ok (.aload_n 1, 1) := by decide +kernel
theorem dL_law_690 : decode cL_law 690 = .ok (.aload_n 0, 1) := by decide +kernel
theorem dL_law_691 : decode cL_law 691 = .ok (.iload 4, 2) := by decide +kernel
theorem dL_law_693 : decode cL_law 693 = .ok (.iconst 1, 1) := by decide +kernel
theorem dL_law_694 : decode cL_law 694 = .ok (.iadd, 1) := by decide +kernel
theorem dL_law_695 : decode cL_law 695 = .ok (.iaload, 1) := by decide +kernel
theorem dL_law_696 : decode cL_law 696 = .ok (.aload_n 0, 1) := by decide +kernel
theorem dL_law_697 : decode cL_law 697 = .ok (.iload 4, 2) := by decide +kernel
theorem dL_law_699 : decode cL_law 699 = .ok (.iconst 2, 1) := by decide +kernel
theorem dL_law_700 : decode cL_law 700 = .ok (.iadd, 1) := by decide +kernel
theorem dL_law_701 : decode cL_law 701 = .ok (.iaload, 1) := by decide +kernel
theorem dL_law_702 : decode cL_law 702 = .ok (.aload_n 3, 1) := by decide +kernel
theorem dL_law_703 : decode cL_law 703 = .ok (.invokestatic 113, 3) := by decide +kernel
theorem dL_law_706 : decode cL_law 706 = .ok (.istore 5, 2) := by decide +kernel
theorem dL_law_708 : decode cL_law 708 = .ok (.aload_n 2, 1) := by decide +kernel
theorem dL_law_709 : decode cL_law 709 = .ok (.aload_n 0, 1) := by decide +kernel
theorem dL_law_710 : decode cL_law 710 = .ok (.iload 4, 2) := by decide +kernel
theorem dL_law_712 : decode cL_law 712 = .ok (.iconst 1, 1) := by decide +kernel
theorem dL_law_713 : decode cL_law 713 = .ok (.iadd, 1) := by decide +kernel
theorem dL_law_714 : decode cL_law 714 = .ok (.iaload, 1) := by decide +kernel
theorem dL_law_715 : decode cL_law 715 = .ok (.aload_n 0, 1) := by decide +kernel
theorem dL_law_716 : decode cL_law 716 = .ok (.iload 4, 2) := by decide +kernel
theorem dL_law_718 : decode cL_law 718 = .ok (.iconst 2, 1) := by decide +kernel
theorem dL_law_719 : decode cL_law 719 = .ok (.iadd, 1) := by decide +kernel
theorem dL_law_720 : decode cL_law 720 = .ok (.iaload, 1) := by decide +kernel
theorem dL_law_721 : decode cL_law 721 = .ok (.invokevirtual 115, 3) := by decide +kernel
theorem dL_law_724 : decode cL_law 724 = .ok (.istore 6, 2) := by decide +kernel
theorem dL_law_726 : decode cL_law 726 = .ok (.aload_n 2, 1) := by decide +kernel
theorem dL_law_727 : decode cL_law 727 = .ok (.invokevirtual 80, 3) := by decide +kernel
theorem dL_law_730 : decode cL_law 730 = .ok (.iload 5, 2) := by decide +kernel
theorem dL_law_732 : decode cL_law 732 = .ok (.if_icmp .eq 5, 3) := by decide +kernel
theorem dL_law_735 : decode cL_law 735 = .ok (.iconst 0, 1) := by decide +kernel
theorem dL_law_736 : decode cL_law 736 = .ok (.ireturn, 1) := by decide +kernel
theorem dL_law_737 : decode cL_law 737 = .ok (.iload 5, 2) := by decide +kernel
theorem dL_law_739 : decode cL_law 739 = .ok (.ifCond .ne 15, 3) := by decide +kernel
theorem dL_law_742 : decode cL_law 742 = .ok (.aload_n 3, 1) := by decide +kernel
theorem dL_law_743 : decode cL_law 743 = .ok (.iconst 0, 1) := by decide +kernel
theorem dL_law_744 : decode cL_law 744 = .ok (.laload, 1) := by decide +kernel
theorem dL_law_745 : decode cL_law 745 = .ok (.iload 6, 2) := by decide +kernel
theorem dL_law_747 : decode cL_law 747 = .ok (.i2l, 1) := by decide +kernel
theorem dL_law_748 : decode cL_law 748 = .ok (.lcmp, 1) := by decide +kernel
theorem dL_law_749 : decode cL_law 749 = .ok (.ifCond .eq 5, 3) := by decide +kernel
theorem dL_law_752 : decode cL_law 752 = .ok (.iconst 0, 1) := by decide +kernel
theorem dL_law_753 : decode cL_law 753 = .ok (.ireturn, 1) := by decide +kernel
theorem dL_law_754 : decode cL_law 754 = .ok (.goto 500, 3) := by decide +kernel
theorem dL_law_757 : decode cL_law 757 = .ok (.aload_n 1, 1) := by decide +kernel
theorem dL_law_758 : decode cL_law 758 = .ok (.aload_n 0, 1) := by decide +kernel
theorem dL_law_759 : decode cL_law 759 = .ok (.iload 4, 2) := by decide +kernel
theorem dL_law_761 : decode cL_law 761 = .ok (.iconst 1, 1) := by decide +kernel
theorem dL_law_762 : decode cL_law 762 = .ok (.iadd, 1) := by decide +kernel
theorem dL_law_763 : decode cL_law 763 = .ok (.iaload, 1) := by decide +kernel
theorem dL_law_764 : decode cL_law 764 = .ok (.aload_n 3, 1) := by decide +kernel
theorem dL_law_765 : decode cL_law 765 = .ok (.invokestatic 116, 3) := by decide +kernel
theorem dL_law_768 : decode cL_law 768 = .ok (.istore 5, 2) := by decide +kernel
theorem dL_law_770 : decode cL_law 770 = .ok (.aload_n 2, 1) := by decide +kernel
theorem dL_law_771 : decode cL_law 771 = .ok (.aload_n 0, 1) := by decide +kernel
theorem dL_law_772 : decode cL_law 772 = .ok (.iload 4, 2) := by decide +kernel
theorem dL_law_774 : decode cL_law 774 = .ok (.iconst 1, 1) := by decide +kernel
theorem dL_law_775 : decode cL_law 775 = .ok (.iadd, 1) := by decide +kernel
theorem dL_law_776 : decode cL_law 776 = .ok (.iaload, 1) := by decide +kernel
theorem dL_law_777 : decode cL_law 777 = .ok (.invokevirtual 118, 3) := by decide +kernel
theorem dL_law_780 : decode cL_law 780 = .ok (.istore 6, 2) := by decide +kernel
theorem dL_law_782 : decode cL_law 782 = .ok (.aload_n 2, 1) := by decide +kernel
theorem dL_law_783 : decode cL_law 783 = .ok (.invokevirtual 80, 3) := by decide +kernel
theorem dL_law_786 : decode cL_law 786 = .ok (.iload 5, 2) := by decide +kernel
theorem dL_law_788 : decode cL_law 788 = .ok (.if_icmp .eq 5, 3) := by decide +kernel
theorem dL_law_791 : decode cL_law 791 = .ok (.iconst 0, 1) := by decide +kernel
theorem dL_law_792 : decode cL_law 792 = .ok (.ireturn, 1) := by decide +kernel
theorem dL_law_793 : decode cL_law 793 = .ok (.iload 5, 2) := by decide +kernel
theorem dL_law_795 : decode cL_law 795 = .ok (.ifCond .ne 15, 3) := by decide +kernel
theorem dL_law_798 : decode cL_law 798 = .ok (.aload_n 3, 1) := by decide +kernel
theorem dL_law_799 : decode cL_law 799 = .ok (.iconst 0, 1) := by decide +kernel
theorem dL_law_800 : decode cL_law 800 = .ok (.laload, 1) := by decide +kernel
theorem dL_law_801 : decode cL_law 801 = .ok (.iload 6, 2) := by decide +kernel
theorem dL_law_803 : decode cL_law 803 = .ok (.i2l, 1) := by decide +kernel
theorem dL_law_804 : decode cL_law 804 = .ok (.lcmp, 1) := by decide +kernel
theorem dL_law_805 : decode cL_law 805 = .ok (.ifCond .eq 5, 3) := by decide +kernel
theorem dL_law_808 : decode cL_law 808 = .ok (.iconst 0, 1) := by decide +kernel
theorem dL_law_809 : decode cL_law 809 = .ok (.ireturn, 1) := by decide +kernel
theorem dL_law_810 : decode cL_law 810 = .ok (.goto 444, 3) := by decide +kernel
theorem dL_law_813 : decode cL_law 813 = .ok (.aload_n 1, 1) := by decide +kernel
theorem dL_law_814 : decode cL_law 814 = .ok (.aload_n 0, 1) := by decide +kernel
theorem dL_law_815 : decode cL_law 815 = .ok (.iload 4, 2) := by decide +kernel
theorem dL_law_817 : decode cL_law 817 = .ok (.iconst 1, 1) := by decide +kernel
theorem dL_law_818 : decode cL_law 818 = .ok (.iadd, 1) := by decide +kernel
theorem dL_law_819 : decode cL_law 819 = .ok (.iaload, 1) := by decide +kernel
theorem dL_law_820 : decode cL_law 820 = .ok (.aload_n 3, 1) := by decide +kernel
theorem dL_law_821 : decode cL_law 821 = .ok (.invokestatic 119, 3) := by decide +kernel
theorem dL_law_824 : decode cL_law 824 = .ok (.istore 5, 2) := by decide +kernel
theorem dL_law_826 : decode cL_law 826 = .ok (.aload_n 2, 1) := by decide +kernel
theorem dL_law_827 : decode cL_law 827 = .ok (.aload_n 0, 1) := by decide +kernel
theorem dL_law_828 : decode cL_law 828 = .ok (.iload 4, 2) := by decide +kernel
theorem dL_law_830 : decode cL_law 830 = .ok (.iconst 1, 1) := by decide +kernel
theorem dL_law_831 : decode cL_law 831 = .ok (.iadd, 1) := by decide +kernel
theorem dL_law_832 : decode cL_law 832 = .ok (.iaload, 1) := by decide +kernel
theorem dL_law_833 : decode cL_law 833 = .ok (.invokevirtual 121, 3) := by decide +kernel
theorem dL_law_836 : decode cL_law 836 = .ok (.istore 6, 2) := by decide +kernel
theorem dL_law_838 : decode cL_law 838 = .ok (.aload_n 2, 1) := by decide +kernel
theorem dL_law_839 : decode cL_law 839 = .ok (.invokevirtual 80, 3) := by decide +kernel
theorem dL_law_842 : decode cL_law 842 = .ok (.iload 5, 2) := by decide +kernel
theorem dL_law_844 : decode cL_law 844 = .ok (.if_icmp .eq 5, 3) := by decide +kernel
theorem dL_law_847 : decode cL_law 847 = .ok (.iconst 0, 1) := by decide +kernel
theorem dL_law_848 : decode cL_law 848 = .ok (.ireturn, 1) := by decide +kernel
theorem dL_law_849 : decode cL_law 849 = .ok (.iload 5, 2) := by decide +kernel
theorem dL_law_851 : decode cL_law 851 = .ok (.ifCond .ne 15, 3) := by decide +kernel
theorem dL_law_854 : decode cL_law 854 = .ok (.aload_n 3, 1) := by decide +kernel
theorem dL_law_855 : decode cL_law 855 = .ok (.iconst 0, 1) := by decide +kernel
theorem dL_law_856 : decode cL_law 856 = .ok (.laload, 1) := by decide +kernel
theorem dL_law_857 : decode cL_law 857 = .ok (.iload 6, 2) := by decide +kernel
theorem dL_law_859 : decode cL_law 859 = .ok (.i2l, 1) := by decide +kernel
theorem dL_law_860 : decode cL_law 860 = .ok (.lcmp, 1) := by decide +kernel
theorem dL_law_861 : decode cL_law 861 = .ok (.ifCond .eq 5, 3) := by decide +kernel
theorem dL_law_864 : decode cL_law 864 = .ok (.iconst 0, 1) := by decide +kernel
theorem dL_law_865 : decode cL_law 865 = .ok (.ireturn, 1) := by decide +kernel
theorem dL_law_866 : decode cL_law 866 = .ok (.goto 388, 3) := by decide +kernel
theorem dL_law_869 : decode cL_law 869 = .ok (.aload_n 1, 1) := by decide +kernel
theorem dL_law_870 : decode cL_law 870 = .ok (.aload_n 0, 1) := by decide +kernel
theorem dL_law_871 : decode cL_law 871 = .ok (.iload 4, 2) := by decide +kernel
theorem dL_law_873 : decode cL_law 873 = .ok (.iconst 1, 1) := by decide +kernel
theorem dL_law_874 : decode cL_law 874 = .ok (.iadd, 1) := by decide +kernel
theorem dL_law_875 : decode cL_law 875 = .ok (.iaload, 1) := by decide +kernel
theorem dL_law_876 : decode cL_law 876 = .ok (.aload_n 3, 1) := by decide +kernel
theorem dL_law_877 : decode cL_law 877 = .ok (.invokestatic 122, 3) := by decide +kernel
theorem dL_law_880 : decode cL_law 880 = .ok (.istore 5, 2) := by decide +kernel
theorem dL_law_882 : decode cL_law 882 = .ok (.aload_n 2, 1) := by decide +kernel
theorem dL_law_883 : decode cL_law 883 = .ok (.aload_n 0, 1) := by decide +kernel
theorem dL_law_884 : decode cL_law 884 = .ok (.iload 4, 2) := by decide +kernel
theorem dL_law_886 : decode cL_law 886 = .ok (.iconst 1, 1) := by decide +kernel
theorem dL_law_887 : decode cL_law 887 = .ok (.iadd, 1) := by decide +kernel
theorem dL_law_888 : decode cL_law 888 = .ok (.iaload, 1) := by decide +kernel
theorem dL_law_889 : decode cL_law 889 = .ok (.invokevirtual 124, 3) := by decide +kernel
theorem dL_law_892 : decode cL_law 892 = .ok (.istore 6, 2) := by decide +kernel
theorem dL_law_894 : decode cL_law 894 = .ok (.aload_n 2, 1) := by decide +kernel
theorem dL_law_895 : decode cL_law 895 = .ok (.invokevirtual 80, 3) := by decide +kernel
theorem dL_law_898 : decode cL_law 898 = .ok (.iload 5, 2) := by decide +kernel
theorem dL_law_900 : decode cL_law 900 = .ok (.if_icmp .eq 5, 3) := by decide +kernel
theorem dL_law_903 : decode cL_law 903 = .ok (.iconst 0, 1) := by decide +kernel
theorem dL_law_904 : decode cL_law 904 = .ok (.ireturn, 1) := by decide +kernel
theorem dL_law_905 : decode cL_law 905 = .ok (.iload 5, 2) := by decide +kernel
theorem dL_law_907 : decode cL_law 907 = .ok (.ifCond .ne 15, 3) := by decide +kernel
theorem dL_law_910 : decode cL_law 910 = .ok (.aload_n 3, 1) := by decide +kernel
theorem dL_law_911 : decode cL_law 911 = .ok (.iconst 0, 1) := by decide +kernel
theorem dL_law_912 : decode cL_law 912 = .ok (.laload, 1) := by decide +kernel
theorem dL_law_913 : decode cL_law 913 = .ok (.iload 6, 2) := by decide +kernel
theorem dL_law_915 : decode cL_law 915 = .ok (.i2l, 1) := by decide +kernel
theorem dL_law_916 : decode cL_law 916 = .ok (.lcmp, 1) := by decide +kernel
theorem dL_law_917 : decode cL_law 917 = .ok (.ifCond .eq 5, 3) := by decide +kernel
theorem dL_law_920 : decode cL_law 920 = .ok (.iconst 0, 1) := by decide +kernel
theorem dL_law_921 : decode cL_law 921 = .ok (.ireturn, 1) := by decide +kernel
theorem dL_law_922 : decode cL_law 922 = .ok (.goto 332, 3) := by decide +kernel
theorem dL_law_925 : decode cL_law 925 = .ok (.aload_n 1, 1) := by decide +kernel
theorem dL_law_926 : decode cL_law 926 = .ok (.invokevirtual 125, 3) := by decide +kernel
theorem dL_law_929 : decode cL_law 929 = .ok (.aload_n 2, 1) := by decide +kernel
theorem dL_law_930 : decode cL_law 930 = .ok (.invokevirtual 128, 3) := by decide +kernel
theorem dL_law_933 : decode cL_law 933 = .ok (.if_icmp .eq 321, 3) := by decide +kernel
theorem dL_law_936 : decode cL_law 936 = .ok (.iconst 0, 1) := by decide +kernel
theorem dL_law_937 : decode cL_law 937 = .ok (.ireturn, 1) := by decide +kernel
theorem dL_law_938 : decode cL_law 938 = .ok (.aload_n 1, 1) := by decide +kernel
theorem dL_law_939 : decode cL_law 939 = .ok (.aload_n 0, 1) := by decide +kernel
theorem dL_law_940 : decode cL_law 940 = .ok (.iload 4, 2) := by decide +kernel
theorem dL_law_942 : decode cL_law 942 = .ok (.iconst 1, 1) := by decide +kernel
theorem dL_law_943 : decode cL_law 943 = .ok (.iadd, 1) := by decide +kernel
theorem dL_law_944 : decode cL_law 944 = .ok (.iaload, 1) := by decide +kernel
theorem dL_law_945 : decode cL_law 945 = .ok (.aload_n 0, 1) := by decide +kernel
theorem dL_law_946 : decode cL_law 946 = .ok (.iload 4, 2) := by decide +kernel
theorem dL_law_948 : decode cL_law 948 = .ok (.iconst 2, 1) := by decide +kernel
theorem dL_law_949 : decode cL_law 949 = .ok (.iadd, 1) := by decide +kernel
theorem dL_law_950 : decode cL_law 950 = .ok (.iaload, 1) := by decide +kernel
theorem dL_law_951 : decode cL_law 951 = .ok (.aload_n 3, 1) := by decide +kernel
theorem dL_law_952 : decode cL_law 952 = .ok (.invokestatic 129, 3) := by decide +kernel
theorem dL_law_955 : decode cL_law 955 = .ok (.istore 5, 2) := by decide +kernel
theorem dL_law_957 : decode cL_law 957 = .ok (.aload_n 2, 1) := by decide +kernel
theorem dL_law_958 : decode cL_law 958 = .ok (.aload_n 0, 1) := by decide +kernel
theorem dL_law_959 : decode cL_law 959 = .ok (.iload 4, 2) := by decide +kernel
theorem dL_law_961 : decode cL_law 961 = .ok (.iconst 1, 1) := by decide +kernel
theorem dL_law_962 : decode cL_law 962 = .ok (.iadd, 1) := by decide +kernel
theorem dL_law_963 : decode cL_law 963 = .ok (.iaload, 1) := by decide +kernel
theorem dL_law_964 : decode cL_law 964 = .ok (.aload_n 0, 1) := by decide +kernel
theorem dL_law_965 : decode cL_law 965 = .ok (.iload 4, 2) := by decide +kernel
theorem dL_law_967 : decode cL_law 967 = .ok (.iconst 2, 1) := by decide +kernel
theorem dL_law_968 : decode cL_law 968 = .ok (.iadd, 1) := by decide +kernel
theorem dL_law_969 : decode cL_law 969 = .ok (.iaload, 1) := by decide +kernel
theorem dL_law_970 : decode cL_law 970 = .ok (.invokevirtual 131, 3) := by decide +kernel
theorem dL_law_973 : decode cL_law 973 = .ok (.istore 6, 2) := by decide +kernel
theorem dL_law_975 : decode cL_law 975 = .ok (.aload_n 2, 1) := by decide +kernel
theorem dL_law_976 : decode cL_law 976 = .ok (.invokevirtual 80, 3) := by decide +kernel
theorem dL_law_979 : decode cL_law 979 = .ok (.iload 5, 2) := by decide +kernel
theorem dL_law_981 : decode cL_law 981 = .ok (.if_icmp .eq 5, 3) := by decide +kernel
theorem dL_law_984 : decode cL_law 984 = .ok (.iconst 0, 1) := by decide +kernel
theorem dL_law_985 : decode cL_law 985 = .ok (.ireturn, 1) := by decide +kernel
theorem dL_law_986 : decode cL_law 986 = .ok (.iload 5, 2) := by decide +kernel
theorem dL_law_988 : decode cL_law 988 = .ok (.ifCond .ne 15, 3) := by decide +kernel
theorem dL_law_991 : decode cL_law 991 = .ok (.aload_n 3, 1) := by decide +kernel
theorem dL_law_992 : decode cL_law 992 = .ok (.iconst 0, 1) := by decide +kernel
theorem dL_law_993 : decode cL_law 993 = .ok (.laload, 1) := by decide +kernel
theorem dL_law_994 : decode cL_law 994 = .ok (.iload 6, 2) := by decide +kernel
theorem dL_law_996 : decode cL_law 996 = .ok (.i2l, 1) := by decide +kernel
theorem dL_law_997 : decode cL_law 997 = .ok (.lcmp, 1) := by decide +kernel
theorem dL_law_998 : decode cL_law 998 = .ok (.ifCond .eq 5, 3) := by decide +kernel
theorem dL_law_1001 : decode cL_law 1001 = .ok (.iconst 0, 1) := by decide +kernel
theorem dL_law_1002 : decode cL_law 1002 = .ok (.ireturn, 1) := by decide +kernel
theorem dL_law_1003 : decode cL_law 1003 = .ok (.goto 251, 3) := by decide +kernel
theorem dL_law_1006 : decode cL_law 1006 = .ok (.aload_n 1, 1) := by decide +kernel
theorem dL_law_1007 : decode cL_law 1007 = .ok (.aload_n 0, 1) := by decide +kernel
theorem dL_law_1008 : decode cL_law 1008 = .ok (.iload 4, 2) := by decide +kernel
theorem dL_law_1010 : decode cL_law 1010 = .ok (.iconst 1, 1) := by decide +kernel
theorem dL_law_1011 : decode cL_law 1011 = .ok (.iadd, 1) := by decide +kernel
theorem dL_law_1012 : decode cL_law 1012 = .ok (.iaload, 1) := by decide +kernel
theorem dL_law_1013 : decode cL_law 1013 = .ok (.aload_n 3, 1) := by decide +kernel
theorem dL_law_1014 : decode cL_law 1014 = .ok (.invokestatic 132, 3) := by decide +kernel
theorem dL_law_1017 : decode cL_law 1017 = .ok (.istore 5, 2) := by decide +kernel
theorem dL_law_1019 : decode cL_law 1019 = .ok (.aload_n 2, 1) := by decide +kernel
theorem dL_law_1020 : decode cL_law 1020 = .ok (.aload_n 0, 1) := by decide +kernel
theorem dL_law_1021 : decode cL_law 1021 = .ok (.iload 4, 2) := by decide +kernel
theorem dL_law_1023 : decode cL_law 1023 = .ok (.iconst 1, 1) := by decide +kernel
theorem dL_law_1024 : decode cL_law 1024 = .ok (.iadd, 1) := by decide +kernel
theorem dL_law_1025 : decode cL_law 1025 = .ok (.iaload, 1) := by decide +kernel
theorem dL_law_1026 : decode cL_law 1026 = .ok (.invokevirtual 134, 3) := by decide +kernel
theorem dL_law_1029 : decode cL_law 1029 = .ok (.istore 6, 2) := by decide +kernel
theorem dL_law_1031 : decode cL_law 1031 = .ok (.aload_n 2, 1) := by decide +kernel
theorem dL_law_1032 : decode cL_law 1032 = .ok (.invokevirtual 80, 3) := by decide +kernel
theorem dL_law_1035 : decode cL_law 1035 = .ok (.iload 5, 2) := by decide +kernel
theorem dL_law_1037 : decode cL_law 1037 = .ok (.if_icmp .eq 5, 3) := by decide +kernel
theorem dL_law_1040 : decode cL_law 1040 = .ok (.iconst 0, 1) := by decide +kernel
theorem dL_law_1041 : decode cL_law 1041 = .ok (.ireturn, 1) := by decide +kernel
theorem dL_law_1042 : decode cL_law 1042 = .ok (.iload 5, 2) := by decide +kernel
theorem dL_law_1044 : decode cL_law 1044 = .ok (.ifCond .ne 15, 3) := by decide +kernel
theorem dL_law_1047 : decode cL_law 1047 = .ok (.aload_n 3, 1) := by decide +kernel
theorem dL_law_1048 : decode cL_law 1048 = .ok (.iconst 0, 1) := by decide +kernel
theorem dL_law_1049 : decode cL_law 1049 = .ok (.laload, 1) := by decide +kernel
theorem dL_law_1050 : decode cL_law 1050 = .ok (.iload 6, 2) := by decide +kernel
theorem dL_law_1052 : decode cL_law 1052 = .ok (.i2l, 1) := by decide +kernel
theorem dL_law_1053 : decode cL_law 1053 = .ok (.lcmp, 1) := by decide +kernel
theorem dL_law_1054 : decode cL_law 1054 = .ok (.ifCond .eq 5, 3) := by decide +kernel
theorem dL_law_1057 : decode cL_law 1057 = .ok (.iconst 0, 1) := by decide +kernel
theorem dL_law_1058 : decode cL_law 1058 = .ok (.ireturn, 1) := by decide +kernel
theorem dL_law_1059 : decode cL_law 1059 = .ok (.goto 195, 3) := by decide +kernel
theorem dL_law_1062 : decode cL_law 1062 = .ok (.aload_n 1, 1) := by decide +kernel
theorem dL_law_1063 : decode cL_law 1063 = .ok (.aload_n 0, 1) := by decide +kernel
theorem dL_law_1064 : decode cL_law 1064 = .ok (.iload 4, 2) := by decide +kernel
theorem dL_law_1066 : decode cL_law 1066 = .ok (.iconst 1, 1) := by decide +kernel
theorem dL_law_1067 : decode cL_law 1067 = .ok (.iadd, 1) := by decide +kernel
theorem dL_law_1068 : decode cL_law 1068 = .ok (.iaload, 1) := by decide +kernel
theorem dL_law_1069 : decode cL_law 1069 = .ok (.aload_n 3, 1) := by decide +kernel
theorem dL_law_1070 : decode cL_law 1070 = .ok (.invokestatic 135, 3) := by decide +kernel
theorem dL_law_1073 : decode cL_law 1073 = .ok (.istore 5, 2) := by decide +kernel
theorem dL_law_1075 : decode cL_law 1075 = .ok (.aload_n 2, 1) := by decide +kernel
theorem dL_law_1076 : decode cL_law 1076 = .ok (.aload_n 0, 1) := by decide +kernel
theorem dL_law_1077 : decode cL_law 1077 = .ok (.iload 4, 2) := by decide +kernel
theorem dL_law_1079 : decode cL_law 1079 = .ok (.iconst 1, 1) := by decide +kernel
theorem dL_law_1080 : decode cL_law 1080 = .ok (.iadd, 1) := by decide +kernel
theorem dL_law_1081 : decode cL_law 1081 = .ok (.iaload, 1) := by decide +kernel
theorem dL_law_1082 : decode cL_law 1082 = .ok (.invokevirtual 137, 3) := by decide +kernel
theorem dL_law_1085 : decode cL_law 1085 = .ok (.istore 6, 2) := by decide +kernel
theorem dL_law_1087 : decode cL_law 1087 = .ok (.aload_n 2, 1) := by decide +kernel
theorem dL_law_1088 : decode cL_law 1088 = .ok (.invokevirtual 80, 3) := by decide +kernel
theorem dL_law_1091 : decode cL_law 1091 = .ok (.iload 5, 2) := by decide +kernel
theorem dL_law_1093 : decode cL_law 1093 = .ok (.if_icmp .eq 5, 3) := by decide +kernel
theorem dL_law_1096 : decode cL_law 1096 = .ok (.iconst 0, 1) := by decide +kernel
theorem dL_law_1097 : decode cL_law 1097 = .ok (.ireturn, 1) := by decide +kernel
theorem dL_law_1098 : decode cL_law 1098 = .ok (.iload 5, 2) := by decide +kernel
theorem dL_law_1100 : decode cL_law 1100 = .ok (.ifCond .ne 15, 3) := by decide +kernel
theorem dL_law_1103 : decode cL_law 1103 = .ok (.aload_n 3, 1) := by decide +kernel
theorem dL_law_1104 : decode cL_law 1104 = .ok (.iconst 0, 1) := by decide +kernel
theorem dL_law_1105 : decode cL_law 1105 = .ok (.laload, 1) := by decide +kernel
theorem dL_law_1106 : decode cL_law 1106 = .ok (.iload 6, 2) := by decide +kernel
theorem dL_law_1108 : decode cL_law 1108 = .ok (.i2l, 1) := by decide +kernel
theorem dL_law_1109 : decode cL_law 1109 = .ok (.lcmp, 1) := by decide +kernel
theorem dL_law_1110 : decode cL_law 1110 = .ok (.ifCond .eq 5, 3) := by decide +kernel
theorem dL_law_1113 : decode cL_law 1113 = .ok (.iconst 0, 1) := by decide +kernel
theorem dL_law_1114 : decode cL_law 1114 = .ok (.ireturn, 1) := by decide +kernel
theorem dL_law_1115 : decode cL_law 1115 = .ok (.goto 139, 3) := by decide +kernel
theorem dL_law_1118 : decode cL_law 1118 = .ok (.aload_n 1, 1) := by decide +kernel
theorem dL_law_1119 : decode cL_law 1119 = .ok (.aload_n 0, 1) := by decide +kernel
theorem dL_law_1120 : decode cL_law 1120 = .ok (.iload 4, 2) := by decide +kernel
theorem dL_law_1122 : decode cL_law 1122 = .ok (.iconst 1, 1) := by decide +kernel
theorem dL_law_1123 : decode cL_law 1123 = .ok (.iadd, 1) := by decide +kernel
theorem dL_law_1124 : decode cL_law 1124 = .ok (.iaload, 1) := by decide +kernel
theorem dL_law_1125 : decode cL_law 1125 = .ok (.aload_n 0, 1) := by decide +kernel
theorem dL_law_1126 : decode cL_law 1126 = .ok (.iload 4, 2) := by decide +kernel
theorem dL_law_1128 : decode cL_law 1128 = .ok (.iconst 2, 1) := by decide +kernel
theorem dL_law_1129 : decode cL_law 1129 = .ok (.iadd, 1) := by decide +kernel
theorem dL_law_1130 : decode cL_law 1130 = .ok (.iaload, 1) := by decide +kernel
theorem dL_law_1131 : decode cL_law 1131 = .ok (.aload_n 3, 1) := by decide +kernel
theorem dL_law_1132 : decode cL_law 1132 = .ok (.invokestatic 138, 3) := by decide +kernel
theorem dL_law_1135 : decode cL_law 1135 = .ok (.istore 5, 2) := by decide +kernel
theorem dL_law_1137 : decode cL_law 1137 = .ok (.aload_n 2, 1) := by decide +kernel
theorem dL_law_1138 : decode cL_law 1138 = .ok (.aload_n 0, 1) := by decide +kernel
theorem dL_law_1139 : decode cL_law 1139 = .ok (.iload 4, 2) := by decide +kernel
theorem dL_law_1141 : decode cL_law 1141 = .ok (.iconst 1, 1) := by decide +kernel
theorem dL_law_1142 : decode cL_law 1142 = .ok (.iadd, 1) := by decide +kernel
theorem dL_law_1143 : decode cL_law 1143 = .ok (.iaload, 1) := by decide +kernel
theorem dL_law_1144 : decode cL_law 1144 = .ok (.aload_n 0, 1) := by decide +kernel
theorem dL_law_1145 : decode cL_law 1145 = .ok (.iload 4, 2) := by decide +kernel
theorem dL_law_1147 : decode cL_law 1147 = .ok (.iconst 2, 1) := by decide +kernel
theorem dL_law_1148 : decode cL_law 1148 = .ok (.iadd, 1) := by decide +kernel
theorem dL_law_1149 : decode cL_law 1149 = .ok (.iaload, 1) := by decide +kernel
theorem dL_law_1150 : decode cL_law 1150 = .ok (.invokevirtual 140, 3) := by decide +kernel
theorem dL_law_1153 : decode cL_law 1153 = .ok (.istore 6, 2) := by decide +kernel
theorem dL_law_1155 : decode cL_law 1155 = .ok (.aload_n 2, 1) := by decide +kernel
theorem dL_law_1156 : decode cL_law 1156 = .ok (.invokevirtual 80, 3) := by decide +kernel
theorem dL_law_1159 : decode cL_law 1159 = .ok (.iload 5, 2) := by decide +kernel
theorem dL_law_1161 : decode cL_law 1161 = .ok (.if_icmp .eq 5, 3) := by decide +kernel
theorem dL_law_1164 : decode cL_law 1164 = .ok (.iconst 0, 1) := by decide +kernel
theorem dL_law_1165 : decode cL_law 1165 = .ok (.ireturn, 1) := by decide +kernel
theorem dL_law_1166 : decode cL_law 1166 = .ok (.iload 5, 2) := by decide +kernel
theorem dL_law_1168 : decode cL_law 1168 = .ok (.ifCond .ne 15, 3) := by decide +kernel
theorem dL_law_1171 : decode cL_law 1171 = .ok (.aload_n 3, 1) := by decide +kernel
theorem dL_law_1172 : decode cL_law 1172 = .ok (.iconst 0, 1) := by decide +kernel
theorem dL_law_1173 : decode cL_law 1173 = .ok (.laload, 1) := by decide +kernel
theorem dL_law_1174 : decode cL_law 1174 = .ok (.iload 6, 2) := by decide +kernel
theorem dL_law_1176 : decode cL_law 1176 = .ok (.i2l, 1) := by decide +kernel
theorem dL_law_1177 : decode cL_law 1177 = .ok (.lcmp, 1) := by decide +kernel
theorem dL_law_1178 : decode cL_law 1178 = .ok (.ifCond .eq 5, 3) := by decide +kernel
theorem dL_law_1181 : decode cL_law 1181 = .ok (.iconst 0, 1) := by decide +kernel
theorem dL_law_1182 : decode cL_law 1182 = .ok (.ireturn, 1) := by decide +kernel
theorem dL_law_1183 : decode cL_law 1183 = .ok (.goto 71, 3) := by decide +kernel
theorem dL_law_1186 : decode cL_law 1186 = .ok (.aload_n 1, 1) := by decide +kernel
theorem dL_law_1187 : decode cL_law 1187 = .ok (.aload_n 0, 1) := by decide +kernel
theorem dL_law_1188 : decode cL_law 1188 = .ok (.iload 4, 2) := by decide +kernel
theorem dL_law_1190 : decode cL_law 1190 = .ok (.iconst 1, 1) := by decide +kernel
theorem dL_law_1191 : decode cL_law 1191 = .ok (.iadd, 1) := by decide +kernel
theorem dL_law_1192 : decode cL_law 1192 = .ok (.iaload, 1) := by decide +kernel
theorem dL_law_1193 : decode cL_law 1193 = .ok (.aload_n 0, 1) := by decide +kernel
theorem dL_law_1194 : decode cL_law 1194 = .ok (.iload 4, 2) := by decide +kernel
theorem dL_law_1196 : decode cL_law 1196 = .ok (.iconst 2, 1) := by decide +kernel
theorem dL_law_1197 : decode cL_law 1197 = .ok (.iadd, 1) := by decide +kernel
theorem dL_law_1198 : decode cL_law 1198 = .ok (.iaload, 1) := by decide +kernel
theorem dL_law_1199 : decode cL_law 1199 = .ok (.aload_n 3, 1) := by decide +kernel
theorem dL_law_1200 : decode cL_law 1200 = .ok (.invokestatic 141, 3) := by decide +kernel
theorem dL_law_1203 : decode cL_law 1203 = .ok (.istore 5, 2) := by decide +kernel
theorem dL_law_1205 : decode cL_law 1205 = .ok (.aload_n 2, 1) := by decide +kernel
theorem dL_law_1206 : decode cL_law 1206 = .ok (.aload_n 0, 1) := by decide +kernel
theorem dL_law_1207 : decode cL_law 1207 = .ok (.iload 4, 2) := by decide +kernel
theorem dL_law_1209 : decode cL_law 1209 = .ok (.iconst 1, 1) := by decide +kernel
theorem dL_law_1210 : decode cL_law 1210 = .ok (.iadd, 1) := by decide +kernel
theorem dL_law_1211 : decode cL_law 1211 = .ok (.iaload, 1) := by decide +kernel
theorem dL_law_1212 : decode cL_law 1212 = .ok (.aload_n 0, 1) := by decide +kernel
theorem dL_law_1213 : decode cL_law 1213 = .ok (.iload 4, 2) := by decide +kernel
theorem dL_law_1215 : decode cL_law 1215 = .ok (.iconst 2, 1) := by decide +kernel
theorem dL_law_1216 : decode cL_law 1216 = .ok (.iadd, 1) := by decide +kernel
theorem dL_law_1217 : decode cL_law 1217 = .ok (.iaload, 1) := by decide +kernel
theorem dL_law_1218 : decode cL_law 1218 = .ok (.invokevirtual 143, 3) := by decide +kernel
theorem dL_law_1221 : decode cL_law 1221 = .ok (.istore 6, 2) := by decide +kernel
theorem dL_law_1223 : decode cL_law 1223 = .ok (.aload_n 2, 1) := by decide +kernel
theorem dL_law_1224 : decode cL_law 1224 = .ok (.invokevirtual 80, 3) := by decide +kernel
theorem dL_law_1227 : decode cL_law 1227 = .ok (.iload 5, 2) := by decide +kernel
theorem dL_law_1229 : decode cL_law 1229 = .ok (.if_icmp .eq 5, 3) := by decide +kernel
theorem dL_law_1232 : decode cL_law 1232 = .ok (.iconst 0, 1) := by decide +kernel
theorem dL_law_1233 : decode cL_law 1233 = .ok (.ireturn, 1) := by decide +kernel
theorem dL_law_1234 : decode cL_law 1234 = .ok (.iload 5, 2) := by decide +kernel
theorem dL_law_1236 : decode cL_law 1236 = .ok (.ifCond .ne 15, 3) := by decide +kernel
theorem dL_law_1239 : decode cL_law 1239 = .ok (.aload_n 3, 1) := by decide +kernel
theorem dL_law_1240 : decode cL_law 1240 = .ok (.iconst 0, 1) := by decide +kernel
theorem dL_law_1241 : decode cL_law 1241 = .ok (.laload, 1) := by decide +kernel
theorem dL_law_1242 : decode cL_law 1242 = .ok (.iload 6, 2) := by decide +kernel
theorem dL_law_1244 : decode cL_law 1244 = .ok (.i2l, 1) := by decide +kernel
theorem dL_law_1245 : decode cL_law 1245 = .ok (.lcmp, 1) := by decide +kernel
theorem dL_law_1246 : decode cL_law 1246 = .ok (.ifCond .eq 5, 3) := by decide +kernel
theorem dL_law_1249 : decode cL_law 1249 = .ok (.iconst 0, 1) := by decide +kernel
theorem dL_law_1250 : decode cL_law 1250 = .ok (.ireturn, 1) := by decide +kernel
theorem dL_law_1251 : decode cL_law 1251 = .ok (.goto 3, 3) := by decide +kernel
theorem dL_law_1254 : decode cL_law 1254 = .ok (.iinc 4 5, 3) := by decide +kernel
theorem dL_law_1257 : decode cL_law 1257 = .ok (.goto (-1234), 3) := by decide +kernel
theorem dL_law_1260 : decode cL_law 1260 = .ok (.iconst 1, 1) := by decide +kernel
theorem dL_law_1261 : decode cL_law 1261 = .ok (.ireturn, 1) := by decide +kernel
end
section
/-! ints: every int of the walk is zI of a whole number -/
def zI (a : Int) : Int32 := Int32.ofInt a
abbrev zB (a : Int) : Prop := -2147483648 ≤ a ∧ a < 2147483648
theorem zI_toInt {a : Int} (h : zB a) : (zI a).toInt = a := Int32.toInt_ofInt_of_le (by have := h.1; omega) (by have := h.2; omega)
theorem zI_of (x : Int32) : zI x.toInt = x := Int32.ofInt_toInt x
theorem zB_of (x : Int32) : zB x.toInt := ⟨by have := x.le_toInt; omega, by have := x.toInt_lt; omega⟩
theorem zI_add (a b : Int) : zI a + zI b = zI (a + b) := (Int32.ofInt_add a b).symm
theorem zI_sub (a b : Int) : zI a - zI b = zI (a - b) := (Int32.ofInt_sub a b).symm
theorem zI_mul (a b : Int) : zI a * zI b = zI (a * b) := (Int32.ofInt_mul a b).symm
theorem zI_lt {a b : Int} (ha : zB a) (hb : zB b) : zI a < zI b ↔ a < b := by rw [Int32.lt_iff_toInt_lt, zI_toInt ha, zI_toInt hb]
theorem zI_le {a b : Int} (ha : zB a) (hb : zB b) : zI a ≤ zI b ↔ a ≤ b := by rw [Int32.le_iff_toInt_le, zI_toInt ha, zI_toInt hb]
theorem zI_eq {a b : Int} (ha : zB a) (hb : zB b) : zI a = zI b ↔ a = b := ⟨fun h => by
  have h2 := congrArg Int32.toInt h
  rwa [zI_toInt ha, zI_toInt hb] at h2, fun h => by rw [h]⟩
theorem zI_cl {a : Int} (h1 : 0 ≤ a) (h2 : a < 2147483648) : (zI a).toNatClampNeg = a.toNat := by
  show (zI a).toInt.toNat = a.toNat
  rw [zI_toInt ⟨by omega, h2⟩]
theorem zI_in {a : Int} {n : Nat} (h0 : 0 ≤ a) (h1 : a < n) (hn : n ≤ 2147483648) : vp_in (zI a) n := by
  refine vp_in_iff.mpr ?_
  rw [zI_toInt ⟨by omega, by omega⟩]
  exact ⟨h0, h1⟩
theorem zI_div {a b : Int} (ha : 0 ≤ a) (ha2 : a < 2147483648) (hb : 0 < b) (hb2 : b < 2147483648) : zI a / zI b = zI (a / b) := by
  have e1 : (zI a).toInt = a := zI_toInt ⟨by omega, ha2⟩
  have e2 : (zI b).toInt = b := zI_toInt ⟨by omega, hb2⟩
  have hb9 : zI b ≠ -1 := fun h => by
    have h2 := congrArg Int32.toInt h
    rw [e2] at h2
    have h3 : (-1 : Int32).toInt = -1 := by decide
    omega
  have q0 : 0 ≤ a / b := Int.ediv_nonneg ha (by omega)
  have q1 : a / b ≤ a := Int.ediv_le_self b ha
  refine Int32.toInt_inj.mp ?_
  rw [Int32.toInt_div_of_ne_right _ _ hb9, e1, e2, zI_toInt ⟨by omega, by omega⟩, Int.tdiv_eq_ediv_of_nonneg ha]
theorem zI_rem {a b : Int} (ha : 0 ≤ a) (ha2 : a < 2147483648) (hb : 0 < b) (hb2 : b < 2147483648) : zI a - zI a / zI b * zI b = zI (a % b) := by
  rw [zI_div ha ha2 hb hb2, zI_mul, zI_sub, Int.emod_def, Int.mul_comm]
theorem zI_ne0 {b : Int} (hb : 0 < b) (hb2 : b < 2147483648) : ¬ zI b = 0 := fun h => by
  have h2 : zI b = zI 0 := h
  rw [zI_eq ⟨by omega, hb2⟩ ⟨by omega, by omega⟩] at h2
  omega
theorem zI_max {a b : Int} (ha : zB a) (hb : zB b) : (if zI a < zI b then zI b else zI a) = zI (max a b) := by
  by_cases h : a < b
  · rw [if_pos ((zI_lt ha hb).mpr h)]; congr 1; omega
  · rw [if_neg (fun q => h ((zI_lt ha hb).mp q))]; congr 1; omega
theorem zI_min {a b : Int} (ha : zB a) (hb : zB b) : (if zI b < zI a then zI b else zI a) = zI (min a b) := by
  by_cases h : b < a
  · rw [if_pos ((zI_lt hb ha).mpr h)]; congr 1; omega
  · rw [if_neg (fun q => h ((zI_lt hb ha).mp q))]; congr 1; omega
/-! cells: an int row f of n places, an object of kind k -/
abbrev iv (a : Int) : Value := .int (zI a)
abbrev ar (cI : ClassId) (n : Nat) (f : Int → Int) : va_E := .inl (cI, n, .inl (fun j => zI (f ((j : Nat) : Int))))
abbrev ob (k : Nat) (fs : List Value) : va_E := .inr (k, fs)
def ui (f : Int → Int) (i v : Int) : Int → Int := fun j => if j = i then v else f j
theorem ui_s {f : Int → Int} {i v : Int} : ui f i v i = v := if_pos rfl
theorem ui_n {f : Int → Int} {i v j : Int} (h : j ≠ i) : ui f i v j = f j := if_neg h
theorem ui_eq {f : Int → Int} {i v : Int} (h0 : 0 ≤ i) (h1 : i < 2147483648) : upd (fun j => zI (f ((j : Nat) : Int))) (zI i).toNatClampNeg (zI v) = fun j => zI (ui f i v ((j : Nat) : Int)) := by
  funext j
  rw [zI_cl h0 h1]
  unfold upd ui
  by_cases hj : j = i.toNat
  · rw [if_pos hj, if_pos (by omega)]
  · rw [if_neg hj, if_neg (by omega)]
theorem ar_congr {cI : ClassId} {n : Nat} {f g : Int → Int} (h : ∀ j : Int, 0 ≤ j → j < n → f j = g j) : vp_cell cI (n, .inl (fun j => zI (f ((j : Nat) : Int)))) = vp_cell cI (n, .inl (fun j => zI (g ((j : Nat) : Int)))) := by
  simp only [vp_cell_i, arrV]
  congr 1
  refine congrArg _ ?_
  funext j
  exact congrArg Value.int (congrArg zI (h _ (Int.natCast_nonneg _) (by have := j.isLt; omega)))
/-- two worlds that hold the same: cell by cell, rows up to their length -/
def ce_eq (D : va_G) (cl : List vw_C) (p q : Nat × va_E) : Prop := p.1 = q.1 ∧ ∀ H : Heap, va_at D cl p H → va_at D cl q H
theorem ce_rf {D : va_G} {cl : List vw_C} {p : Nat × va_E} : ce_eq D cl p p := ⟨rfl, fun _ h => h⟩
theorem ce_ar {D : va_G} {cl : List vw_C} {a : Nat} {cI : ClassId} {n : Nat} {f g : Int → Int} (h : ∀ j : Int, 0 ≤ j → j < n → f j = g j) : ce_eq D cl (a, ar cI n f) (a, ar cI n g) := ⟨rfl, fun H h1 => by
  have h2 : H[a]? = some (vp_cell cI (n, .inl (fun j => zI (f ((j : Nat) : Int))))) := h1
  rw [ar_congr h] at h2
  exact h2⟩
theorem ce_of {D : va_G} {cl : List vw_C} {a : Nat} {e e2 : va_E} (h : e = e2) : ce_eq D cl (a, e) (a, e2) := by rw [h]; exact ce_rf
def WE (D : va_G) (cl : List vw_C) : va_W → va_W → Prop
  | [], [] => True
  | p :: ws, q :: ws' => ce_eq D cl p q ∧ WE D cl ws ws'
  | _, _ => False
theorem WE.get {D : va_G} {cl : List vw_C} : ∀ {ws ws' : va_W}, WE D cl ws ws' → ∀ (k : Nat) (q : Nat × va_E), ws'[k]? = some q → ∃ p, ws[k]? = some p ∧ ce_eq D cl p q
  | [], [], _, k, q, hk => by simp at hk
  | p :: ws, q' :: ws', h, 0, q, hk => ⟨p, rfl, by
    have e : q' = q := Option.some.inj hk
    rw [← e]; exact h.1⟩
  | p :: ws, q' :: ws', h, k + 1, q, hk => by
    obtain ⟨p9, h1, h2⟩ := WE.get h.2 k q (by simpa using hk)
    exact ⟨p9, by simpa using h1, h2⟩
  | [], _ :: _, h, _, _, _ => h.elim
  | _ :: _, [], h, _, _, _ => h.elim
theorem WE.P {D : va_G} {cl : List vw_C} {ws ws' : va_W} {H : Heap} (h : WE D cl ws ws') (hP : va_P D cl ws H) : va_P D cl ws' H := fun k q hk => by
  obtain ⟨p, h1, h2⟩ := h.get k q hk
  exact h2.2 H (hP k p h1)
theorem WE.D {D : va_G} {cl : List vw_C} {A : Nat → Prop} {ws ws' : va_W} (h : WE D cl ws ws') (hD : va_D A ws) : va_D A ws' := by
  refine ⟨fun i j p q hi hj hpq => ?_, fun k q hk => ?_⟩
  · obtain ⟨p1, a1, b1⟩ := h.get i p hi
    obtain ⟨p2, a2, b2⟩ := h.get j q hj
    exact hD.1 i j p1 p2 a1 a2 (b1.1.trans (hpq.trans b2.1.symm))
  · obtain ⟨p1, a1, b1⟩ := h.get k q hk
    rw [← b1.1]
    exact hD.2 k p1 a1
/-! what a launch's tables say beside a method's own words -/
def evL : List Cond := [.fieldLinkNest RX0 24 RX1 "prices" "[I" RX3, .fieldLinkNest RX3 58 RX1 "prices" "[I" RX3, .fieldLinkNest RX0 43 RX1 "weeks" "I" RX3, .fieldLinkNest RX3 133 RX1 "weeks" "I" RX3, .fieldLinkNest RX3 34 RX1 "week" "I" RX3, .fieldLinkNest RX0 36 RX1 "week" "I" RX3, .fieldLinkNest RX0 49 RX1 "gap" "I" RX3, .fieldLinkNest RX3 69 RX1 "gap" "I" RX3, .fieldLinkNest RX0 53 RX1 "remnant" "I" RX3, .fieldLinkNest RX3 72 RX1 "remnant" "I" RX3, .fieldLinkNest RX3 75 RX1 "moving" "I" RX3, .fieldLinkNest RX3 112 RX1 "taken" "I" RX3, .fieldLinkNest RX0 33 RX2 "demands" "[I" RX3, .fieldLinkNest RX3 66 RX2 "demands" "[I" RX3, .fieldLinkNest RX3 85 RX2 "pieces" "[I" RX3, .fieldLinkNest RX0 69 RX2 "step" "I" RX3, .fieldLinkNest RX3 91 RX2 "step" "I" RX3, .fieldLinkNest RX3 102 RX2 "markedDownIn" "I" RX3, .fieldLinkNest RX3 119 RX2 "piecesSold" "I" RX3, .methodLinkNest RX3 11 yX1_init RX3, .methodLinkNest RX3 24 yX0_init RX3, .methodLinkNest RX3 29 yX2_init RX3, .methodLinkNest RX3 38 yX1_startAnew RX3, .methodLinkNest RX3 42 yX2_startAnew RX3, .methodLinkNest RX3 47 yX1_keepsLadderDown RX3, .methodLinkNest RX3 146 yX2_wholeStock RX3, .methodLinkNest RX3 96 yX2_waitFrom RX3, .methodLinkNest RX3 115 yX2_sellForAWeek RX3, .methodLinkNest RX3 122 yX2_salesAt RX3, .methodLinkNest RX3 126 yX0_lookAt RX3, .methodLinkNest RX0 57 yX2_waitFrom RX3, .methodLinkNest RX0 75 yX2_wholeStock RX3, .methodLinkNest RX3 130 yX0_greatestWorth RX3, .methodLinkNest RX3 138 yX0_greatestWorthByAll RX3, .methodLinkNest RX3 141 yX0_bestStepIn RX3, .declares (Bundle.initS "java/lang/RuntimeException"), .declares (Bundle.initS "java/lang/Exception"), .declares (Bundle.initS Bundle.tN), .castable "java/lang/IllegalArgumentException" "java/lang/IllegalArgumentException", .castable "java/lang/IllegalStateException" "java/lang/IllegalStateException"]
def evS : List (Nat × String) := [(144, "out of range"), (53, "prices only go down from step to step"), (149, "the store has no room for so many pieces"), (151, "the season is over"), (94, "the step is not above that of the store"), (100, "the gap has not gone by"), (107, "the stores are the same"), (110, "there are not so many pieces"), (136, "too many weeks are left")]
abbrev xIA : String := "java/lang/IllegalArgumentException"
abbrev xIS : String := "java/lang/IllegalStateException"
def evOk : Cond → Bool
  | .fieldLinkNest .. | .methodLinkNest .. | .declares _ | .castable .. => true
  | _ => false
theorem evL_ok : ∀ w ∈ evL, evOk w = true := by decide +kernel
theorem evw_tab {w : Cond} (h : evOk w = true) : w.onTables = true := by cases w <;> first | rfl | (simp [evOk] at h)
theorem evw_warm {w : Cond} (h : evOk w = true) {s U : State} (hW : s.WarmedH U.vm) (hZ : va_Nw w s) : va_Nw w U := by
  cases w <;> first | exact va_Nw.warmF hW hZ | exact va_Nw.warmM hW hZ | exact va_Nw.warmD hW hZ | exact va_Nw.warmC hW hZ | (simp [evOk] at h)
/-- the tables' words that a method's own list doesn't hold; the texts; which class is not below which -/
def ev (U : State) : Prop := (∀ w ∈ evL, va_Nw w U) ∧ (∀ q ∈ evS, ∃ a, vk_R RX3 q.1 q.2 a U) ∧ va_Nc xIS xIA U
theorem ev.moved {s U : State} (hW : s.WarmedH U.vm) (h : ev s) : ev U := ⟨fun w hw => evw_warm (evL_ok w hw) hW (h.1 w hw), fun q hq => by
  obtain ⟨a, ha⟩ := h.2.1 q hq
  exact ⟨a, vk_R.warm hW ha⟩, va_Nc.moved hW.alike h.2.2⟩
theorem ev.same {s U : State} (hv : U.vm = s.vm) (h : ev s) : ev U := ⟨fun w hw => va_Nw.same (evw_tab (evL_ok w hw)) hv.symm (h.1 w hw), fun q hq => by
  obtain ⟨a, ha⟩ := h.2.1 q hq
  exact ⟨a, vk_R.same hv ha⟩, va_Nc.moved (by rw [hv]; exact Vm.Alike.refl _) h.2.2⟩
theorem ev.nw {s : State} (h : ev s) (i : Nat) {w : Cond} (hi : evL[i]? = some w) : va_Nw w s := h.1 w (List.mem_of_getElem? hi)
theorem ev.at {s : State} {args : Array Value} (h : ev s) (i : Nat) {w : Cond} (hi : evL[i]? = some w) : w.before args s = true := va_Nw.use (evw_tab (evL_ok w (List.mem_of_getElem? hi))) (h.nw i hi)
theorem ev.tx {s : State} (h : ev s) (i : Nat) {q : Nat × String} (hi : evS[i]? = some q) : ∃ a, vk_R RX3 q.1 q.2 a s := h.2.1 q (List.mem_of_getElem? hi)
/-- the two statics of Throwable, outside A -/
def Zs (A : Nat → Prop) (U : State) (H : Heap) : Prop := vx_Zq Bundle.tN "UNASSIGNED_STACK" Bundle.steD A U H ∧ vx_Zq Bundle.tN "SUPPRESSED_SENTINEL" Bundle.listD A U H
theorem Zs.moved {A : Nat → Prop} {u U : State} {H : Heap} (hvm : u.vm.Alike U.vm) (h : Zs A u H) : Zs A U H := ⟨vx_Zq.moved hvm h.1, vx_Zq.moved hvm h.2⟩
theorem Zs.kept {A : Nat → Prop} {U : State} {H H1 : Heap} (h : Zs A U H) (hq : ∀ a : Nat, a < H.size → ¬ A a → H1[a]? = H[a]?) : Zs A U H1 := ⟨vx_Zq.kept h.1 hq, vx_Zq.kept h.2 hq⟩
theorem Zs.narrow {A B : Nat → Prop} {U : State} {H : Heap} (h : Zs A U H) (hAB : ∀ q, B q → A q) : Zs B U H := ⟨vx_Zq.narrow h.1 hAB, vx_Zq.narrow h.2 hAB⟩
/-! contracts -/
abbrev tyL (cI cS cJ : ClassId) : List (ClassId × FieldType) := [(cI, .int), (cS, .object "MarkdownPlanner$Store"), (cJ, .long)]
/-- a start: the world w stands, the heap may be any -/
def pcP (as : List Value) (D : va_G) (tys : List (ClassId × FieldType)) (w : va_W) : Array Value → State → Prop := va_Pc as (fun U => ev U ∧ va_P D vwCl w U.heap ∧ va_K D vwCl tys U)
def pcM (sz : Nat) (as : List Value) (D : va_G) (tys : List (ClassId × FieldType)) (w : va_W) : Array Value → State → Prop := va_Pc as (fun U => U.heap.size = sz ∧ ev U ∧ va_P D vwCl w U.heap ∧ va_K D vwCl tys U ∧ va_D (fun _ => True) w)
def pcT (as : List Value) (D : va_G) (tys : List (ClassId × FieldType)) (w : va_W) : Array Value → State → Prop := va_Pc as (fun U => ev U ∧ va_P D vwCl w U.heap ∧ va_K D vwCl tys U ∧ Zs (fun q => U.heap.size ≤ q) U U.heap)
def pcX (sz : Nat) (as : List Value) (D : va_G) (tys : List (ClassId × FieldType)) (w : va_W) : Array Value → State → Prop := va_Pc as (fun U => U.heap.size = sz ∧ ev U ∧ va_P D vwCl w U.heap ∧ va_K D vwCl tys U ∧ va_D (fun _ => True) w ∧ Zs (fun q => U.heap.size ≤ q) U U.heap)
/-- ends -/
def qcM (D : va_G) (A : Nat → Prop) (Qr : Option Value → va_W → Prop) : Array Value → State → Outcome → State → Prop := fun _ st oc t => ∃ (r : Option Value) (w' : va_W), oc = .returned r ∧ Qr r w' ∧ va_P D vwCl w' t.heap ∧ va_D A w' ∧ va_F A st t
def qcT (Qr : Option Value → Prop) : Array Value → State → Outcome → State → Prop := fun _ st oc t => ∃ r : Option Value, oc = .returned r ∧ Qr r ∧ t.heap = st.heap
def xcT (TX : String → Prop) : String → State → State → Prop := fun E st t => TX E ∧ st.heap.size ≤ t.heap.size ∧ ∀ q : Nat, q < st.heap.size → t.heap[q]? = st.heap[q]?
/-- reads only, answers v -/
abbrev cP (l : Launch) (y : MethodName) (ws : List Cond) (rm : Room) (as : List Value) (D : va_G) (tys : List (ClassId × FieldType)) (w : va_W) (v : Int32) : Prop := Met l y ws rm (pcP as D tys w) (vp_Si (fun r => r = v)) 0 0 (fun _ => False)
/-- changes its world -/
abbrev cM (l : Launch) (y : MethodName) (ws : List Cond) (rm : Room) (as : List Value) (D : va_G) (tys : List (ClassId × FieldType)) (w : va_W) (Qr : Option Value → va_W → Prop) (mc ms : Nat) : Prop := ∀ sz : Nat, Met l y ws rm (pcM sz as D tys w) (qcM D (va_A w sz) Qr) mc ms (va_A w sz)
/-- reads only, or throws -/
abbrev cT (l : Launch) (y : MethodName) (ws : List Cond) (rm : Room) (as : List Value) (D : va_G) (tys : List (ClassId × FieldType)) (w : va_W) (Qr : Option Value → Prop) (TX : String → Prop) (mc ms : Nat) : Prop := vx_Met l y ws rm (pcT as D tys w) (qcT Qr) (xcT TX) mc ms (fun _ => False)
/-- changes its world, or throws with nothing changed -/
abbrev cX (l : Launch) (y : MethodName) (ws : List Cond) (rm : Room) (as : List Value) (D : va_G) (tys : List (ClassId × FieldType)) (w : va_W) (Qr : Option Value → va_W → Prop) (TX : String → Prop) (mc ms : Nat) : Prop := ∀ sz : Nat, vx_Met l y ws rm (pcX sz as D tys w) (qcM D (va_A w sz) Qr) (xcT TX) mc ms (va_A w sz)
/-! what a body has -/
def Hx (p : Program) (s : State) (m : MethodId) (args : Array Value) (meth : Method) (c : Code) (cc : ByteArray) (ret : Option FieldType) (maxL : Nat) (ws : List Cond) (own nm : String) : Prop :=
  p.tables.exec = Jvm.exec ∧ c.code = cc ∧ meth.sig.returnType = ret ∧ c.maxLocals = maxL ∧ (∀ w ∈ ws, w.before args s = true) ∧ s.vm.findClass own = some m.cls ∧ meth.locks = false ∧ meth.name = nm
theorem hx_of {p : Program} {l : Launch} {y : MethodName} {ws : List Cond} {rm : Room} {cc : ByteArray} {maxL : Nat} {ret : Option FieldType} {e : Env} {s : State} {m : MethodId} {args : Array Value} {below : List Frame} {meth : Method} {c : Code} {s₁ : State} (B : BodyLoose p l y (headSpec ws rm) cc maxL ret e s m args below meth c s₁) (hml : c.maxLocals = maxL) : Hx p s m args meth c cc ret maxL ws y.cls y.name :=
  ⟨B.exec, B.bytes, B.returns, hml, atoms_spec (ws := ws) B.pre, findClass_of_methodNamed B.named, B.notSynchronized, (name_of_methodNamed B.named B.method).1⟩
theorem en_fr {p : Program} {l : Launch} {e : Env} {R : Room} {s : State} {m : MethodId} {args : Array Value} {below : List Frame} {meth : Method} {c : Code} {H : Heap} {locs : List Loc} {cells slots : Nat} {Q : State → Prop} {as : List Value} {maxL : Nat} (hlen : (lg_sl as).length ≤ maxL)
    (k : ∀ ls : Array Slot, lv_has ls maxL (lv_args 0 as) → W p l e R s m args below meth c H locs cells slots Q (F0 m 0 ls [])) : W p l e R s m args below meth c H locs cells slots Q (entryFrame m as.toArray maxL) := by
  have hl := lv_entry as (n := maxL) hlen
  rw [lg_entry_eq]
  exact k _ hl
theorem en_P {l : Launch} {y : MethodName} {ws ws' : List Cond} {rm : Room} {cc : ByteArray} {maxL : Nat} {ret : Option FieldType} {as : List Value} {D : va_G} {tys : List (ClassId × FieldType)} {w : va_W} {v : Int32}
    (hy : plainName y.cls = true) (hw : ws = Cond.code y cc maxL ret :: ws') (hlen : (lg_sl as).length ≤ maxL)
    (body : ∀ (p : Program) (e : Env) (s : State) (m : MethodId) (args : Array Value) (below : List Frame) (meth : Method) (c : Code) (ls : Array Slot), Hx p s m args meth c cc ret maxL ws y.cls y.name → ev s → va_P D vwCl w s.heap → va_K D vwCl tys s → lv_has ls maxL (lv_args 0 as) →
      ∀ Q : State → Prop, Q = MQ below (vp_Si (fun r => r = v)) args s 0 0 (fun _ => False) → W p l e rm s m args below meth c s.heap [] 0 0 Q (F0 m 0 ls [])) : cP l y ws rm as D tys w v := by
  refine Met.ofW (cc := cc) (maxL := maxL) (ret := ret) hy hw ?_
  intro p e s m args below meth c s₁ B hml hv
  obtain ⟨ha, hE, hP, hK⟩ := hv
  have hX := hx_of B hml
  rw [ha] at hX ⊢
  exact en_fr hlen (fun ls hl => body p e s m _ below meth c ls hX hE hP hK hl _ rfl)
theorem en_M {l : Launch} {y : MethodName} {ws ws' : List Cond} {rm : Room} {cc : ByteArray} {maxL mc ms : Nat} {ret : Option FieldType} {as : List Value} {D : va_G} {tys : List (ClassId × FieldType)} {w : va_W} {Qr : Option Value → va_W → Prop}
    (hy : plainName y.cls = true) (hw : ws = Cond.code y cc maxL ret :: ws') (hlen : (lg_sl as).length ≤ maxL)
    (body : ∀ (p : Program) (e : Env) (s : State) (m : MethodId) (args : Array Value) (below : List Frame) (meth : Method) (c : Code) (ls : Array Slot) (A : Nat → Prop), Hx p s m args meth c cc ret maxL ws y.cls y.name → ev s → va_P D vwCl w s.heap → va_K D vwCl tys s → va_D A w → va_S A s.heap s.heap [] → (∀ q, s.heap.size ≤ q → A q) → lv_has ls maxL (lv_args 0 as) →
      ∀ Q : State → Prop, Q = MQ below (qcM D A Qr) args s mc ms A → W p l e rm s m args below meth c s.heap [] 0 0 Q (F0 m 0 ls [])) : cM l y ws rm as D tys w Qr mc ms := by
  intro sz
  refine Met.ofW (cc := cc) (maxL := maxL) (ret := ret) hy hw ?_
  intro p e s m args below meth c s₁ B hml hv
  obtain ⟨ha, hsz, hE, hP, hK, hD⟩ := hv
  have hX := hx_of B hml
  rw [ha] at hX ⊢
  exact en_fr hlen (fun ls hl => body p e s m _ below meth c ls _ hX hE hP hK hD.self va_S.rf (fun q h => Or.inr (by rw [← hsz]; exact h)) hl _ rfl)
theorem en_T {l : Launch} {y : MethodName} {ws ws' : List Cond} {rm : Room} {cc : ByteArray} {maxL mc ms : Nat} {ret : Option FieldType} {as : List Value} {D : va_G} {tys : List (ClassId × FieldType)} {w : va_W} {Qr : Option Value → Prop} {TX : String → Prop}
    (hy : plainName y.cls = true) (hw : ws = Cond.code y cc maxL ret :: ws') (hlen : (lg_sl as).length ≤ maxL)
    (body : ∀ (p : Program) (e : Env) (s : State) (m : MethodId) (args : Array Value) (below : List Frame) (meth : Method) (c : Code) (ls : Array Slot), Hx p s m args meth c cc ret maxL ws y.cls y.name → ev s → va_P D vwCl w s.heap → va_K D vwCl tys s → Zs (fun q => s.heap.size ≤ q) s s.heap → (∀ x ∈ c.exceptionTable.toList, False) → lv_has ls maxL (lv_args 0 as) →
      ∀ Q : State → Prop, Q = vx_MQ below (qcT Qr) (xcT TX) args s mc ms (fun _ => False) → W p l e rm s m args below meth c s.heap [] 0 0 Q (F0 m 0 ls [])) : cT l y ws rm as D tys w Qr TX mc ms := by
  refine vx_ofW (cc := cc) (maxL := maxL) (ret := ret) hy hw ?_
  intro p e s m args below meth c s₁ B hml ht hv
  obtain ⟨ha, hE, hP, hK, hZ⟩ := hv
  have hX := hx_of B hml
  rw [ha] at hX ⊢
  exact en_fr hlen (fun ls hl => body p e s m _ below meth c ls hX hE hP hK hZ ht hl _ rfl)
theorem en_X {l : Launch} {y : MethodName} {ws ws' : List Cond} {rm : Room} {cc : ByteArray} {maxL mc ms : Nat} {ret : Option FieldType} {as : List Value} {D : va_G} {tys : List (ClassId × FieldType)} {w : va_W} {Qr : Option Value → va_W → Prop} {TX : String → Prop}
    (hy : plainName y.cls = true) (hw : ws = Cond.code y cc maxL ret :: ws') (hlen : (lg_sl as).length ≤ maxL)
    (body : ∀ (p : Program) (e : Env) (s : State) (m : MethodId) (args : Array Value) (below : List Frame) (meth : Method) (c : Code) (ls : Array Slot) (A : Nat → Prop), Hx p s m args meth c cc ret maxL ws y.cls y.name → ev s → va_P D vwCl w s.heap → va_K D vwCl tys s → va_D A w → va_S A s.heap s.heap [] → (∀ q, s.heap.size ≤ q → A q) → Zs (fun q => s.heap.size ≤ q) s s.heap → (∀ x ∈ c.exceptionTable.toList, False) → lv_has ls maxL (lv_args 0 as) →
      ∀ Q : State → Prop, Q = vx_MQ below (qcM D A Qr) (xcT TX) args s mc ms A → W p l e rm s m args below meth c s.heap [] 0 0 Q (F0 m 0 ls [])) : cX l y ws rm as D tys w Qr TX mc ms := by
  intro sz
  refine vx_ofW (cc := cc) (maxL := maxL) (ret := ret) hy hw ?_
  intro p e s m args below meth c s₁ B hml ht hv
  obtain ⟨ha, hsz, hE, hP, hK, hD, hZ⟩ := hv
  have hX := hx_of B hml
  rw [ha] at hX ⊢
  exact en_fr hlen (fun ls hl => body p e s m _ below meth c ls _ hX hE hP hK hD.self va_S.rf (fun q h => Or.inr (by rw [← hsz]; exact h)) hZ ht hl _ rfl)
end
section
/-! calls -/
theorem pcP_fb {as : List Value} {D : va_G} {tys : List (ClassId × FieldType)} {w : va_W} : FrameBlind (pcP as D tys w) := fun a U g mk h => ⟨h.1, ev.same (s := U) rfl h.2.1, h.2.2.1, va_K.moved (u := U) (U := U.calling g mk a) (Vm.Alike.refl U.vm) h.2.2.2⟩
theorem pcM_fb {sz : Nat} {as : List Value} {D : va_G} {tys : List (ClassId × FieldType)} {w : va_W} : FrameBlind (pcM sz as D tys w) := fun a U g mk h => ⟨h.1, h.2.1, ev.same (s := U) rfl h.2.2.1, h.2.2.2.1, va_K.moved (u := U) (U := U.calling g mk a) (Vm.Alike.refl U.vm) h.2.2.2.2.1, h.2.2.2.2.2⟩
theorem pcT_fb {as : List Value} {D : va_G} {tys : List (ClassId × FieldType)} {w : va_W} : FrameBlind (pcT as D tys w) := fun a U g mk h => ⟨h.1, ev.same (s := U) rfl h.2.1, h.2.2.1, va_K.moved (u := U) (U := U.calling g mk a) (Vm.Alike.refl U.vm) h.2.2.2.1, Zs.moved (u := U) (U := U.calling g mk a) (Vm.Alike.refl U.vm) h.2.2.2.2⟩
theorem pcX_fb {sz : Nat} {as : List Value} {D : va_G} {tys : List (ClassId × FieldType)} {w : va_W} : FrameBlind (pcX sz as D tys w) := fun a U g mk h => ⟨h.1, h.2.1, ev.same (s := U) rfl h.2.2.1, h.2.2.2.1, va_K.moved (u := U) (U := U.calling g mk a) (Vm.Alike.refl U.vm) h.2.2.2.2.1, h.2.2.2.2.2.1, Zs.moved (u := U) (U := U.calling g mk a) (Vm.Alike.refl U.vm) h.2.2.2.2.2.2⟩
section MSA
variable {s : State} {H : Heap} {D : va_G} {tys : List (ClassId × FieldType)} {w : va_W} {As : List Value} {A : Nat → Prop}
theorem pcP_S (hE : ev s) (hK : va_K D vwCl tys s) (hP : va_P D vwCl w H) : PreS s H (pcP As D tys w) As := ⟨pcP_fb, fun U hU hW => ⟨rfl, ev.moved hW hE, by rw [hU]; exact hP, va_K.moved hW.alike hK⟩⟩
theorem pcM_S (hE : ev s) (hK : va_K D vwCl tys s) (hP : va_P D vwCl w H) (hD : va_D A w) : PreS s H (pcM H.size As D tys w) As := ⟨pcM_fb, fun U hU hW => ⟨rfl, by rw [hU], ev.moved hW hE, by rw [hU]; exact hP, va_K.moved hW.alike hK, hD.weaken (fun _ _ _ _ => trivial)⟩⟩
theorem pcT_S (hE : ev s) (hK : va_K D vwCl tys s) (hP : va_P D vwCl w H) (hZ : Zs (fun q => H.size ≤ q) s H) : PreS s H (pcT As D tys w) As := ⟨pcT_fb, fun U hU hW => ⟨rfl, ev.moved hW hE, by rw [hU]; exact hP, va_K.moved hW.alike hK, by rw [hU]; exact Zs.moved hW.alike hZ⟩⟩
theorem pcX_S (hE : ev s) (hK : va_K D vwCl tys s) (hP : va_P D vwCl w H) (hD : va_D A w) (hZ : Zs (fun q => H.size ≤ q) s H) : PreS s H (pcX H.size As D tys w) As := ⟨pcX_fb, fun U hU hW => ⟨rfl, by rw [hU], ev.moved hW hE, by rw [hU]; exact hP, va_K.moved hW.alike hK, hD.weaken (fun _ _ _ _ => trivial), by rw [hU]; exact Zs.moved hW.alike hZ⟩⟩
theorem pc_V {b ci q0 : Nat} {q : vw_C} {fs : List Value} {Pc : Array Value → State → Prop} (hK : va_K D vwCl tys s) (hP : va_P D vwCl w H) (hc : vwCl[ci]? = some q) (he : w[q0]? = some (b, .inr (ci, fs))) (h : PreS s H Pc (.ref b :: As)) : PreV s H q.1 b Pc As := ⟨h.1, va_recv hK hP hc he, h.2⟩
end MSA
section MSB
variable {p : Program} {l : Launch} {e : Env} {R : Room} {s : State} {m : MethodId} {args : Array Value} {below : List Frame} {meth : Method} {c : Code} {H : Heap} {locs : List Loc} {cells slots : Nat} {Q : State → Prop}
variable {pc : Nat} {ls : Array Slot} {rest st0 : List Value} {a : Array Value} {A0 A1 : Nat → Prop} {H0 : Heap} {mc ms : Nat} {free : Addr → Prop}
theorem ms_P {v : Int32} (hr : va_Run p l e R s m args below meth c H locs cells slots 0 0 (F0 m pc ls st0) rest (vp_Si (fun r => r = v) a) (fun _ => False))
    (kk : W p l e R s m args below meth c H locs cells slots Q (F0 m (pc + 3) ls (.int v :: rest))) : W p l e R s m args below meth c H locs cells slots Q (F0 m pc ls st0) := by
  intro T hT X
  obtain ⟨v9, st₀, t, T', L, h0, X', hL, e1, e2, ⟨r, hv, hp, hh⟩, st⟩ := hr T hT X
  cases hv
  subst hp
  obtain ⟨t2, a1, b1⟩ := kk T' (by rw [e1, hh, h0]) (Stand.forget X' (fun q h => (hL q h).elim))
  exact ⟨t2, st t2 a1, b1⟩
theorem ms_M {D : va_G} {w wc : va_W} {Qr : Option Value → va_W → Prop} (hr : va_Run p l e R s m args below meth c H locs cells slots mc ms (F0 m pc ls st0) rest (qcM D (va_A wc H.size) Qr a) (va_A wc H.size))
    (hP : va_P D vwCl w H) (hD : va_D A0 w) (hS : va_S A0 H0 H locs) (hA : ∀ q, H0.size ≤ q → A0 q) (isC isR : List Nat) {wr : va_W} (hC : isC.map (fun i => w[i]?) = wc.map some) (hR : isR.map (fun i => w[i]?) = wr.map some) (hn : va_nd isR = true) (hdis : ∀ i ∈ isR, i ∉ isC)
    (kk : ∀ (r : Option Value) (w' : va_W) (H1 : Heap) (locs1 : List Loc), Qr r w' → va_P D vwCl (wr ++ w') H1 → va_D A0 (wr ++ w') → va_S A0 H0 H1 locs1 → W p l e R s m args below meth c H1 locs1 (cells + mc) (slots + ms) Q (F0 m (pc + 3) ls (r.toList ++ rest))) : W p l e R s m args below meth c H locs cells slots Q (F0 m pc ls st0) := by
  intro T hT X
  obtain ⟨v9, st₀, t, T', L, h0, X', hL, e1, e2, ⟨r, w', hv, hq, hp, hd, hz, hk⟩, st⟩ := hr T hT X
  cases hv
  rw [h0] at hz hk
  have hF := va_free (wc := wc) hD hS hA isC hC
  obtain ⟨j1, j2⟩ := va_join (H1 := t.heap) hP hD isC isR hC hR hn hdis hk hF hp hd
  obtain ⟨t2, a1, b1⟩ := kk v9 w' T'.heap (locs ++ L) hq (by rw [e1]; exact j1) j2
    ⟨Nat.le_trans hS.1 (by rw [e1]; exact hz), fun q h1 h2 => by rw [e1, hk q (Nat.lt_of_lt_of_le h1 hS.1) (fun z => h2 (hF q z))]; exact hS.2.1 q h1 h2, fun q hq => by
      rcases List.mem_append.mp hq with h | h
      · exact hS.2.2 q h
      · exact hF _ (hL q h)⟩ T' rfl X'
  exact ⟨t2, st t2 a1, b1⟩
theorem ms_T {Qr : Option Value → Prop} {TX : String → Prop} (hr : vx_Run p l e R s m args below meth c H locs cells slots mc ms (F0 m pc ls st0) rest (qcT Qr a) (xcT TX) (fun _ => False))
    (kx : ∀ (E : String) (ce : Cell) (q9 : Addr) (H1 : Heap), TX E → H.size ≤ H1.size → (∀ q : Nat, q < H.size → H1[q]? = H[q]?) → H1[q9]? = some ce → ce.vm = .none → s.vm.findClass E = some ce.cls → vx_W p l e R s m args below meth c H1 locs (cells + mc) (slots + ms) Q (F0 m pc ls rest) q9)
    (kk : ∀ r : Option Value, Qr r → W p l e R s m args below meth c H locs (cells + mc) (slots + ms) Q (F0 m (pc + 3) ls (r.toList ++ rest))) : W p l e R s m args below meth c H locs cells slots Q (F0 m pc ls st0) := by
  intro T hT X
  rcases hr T hT X with ⟨v9, st₀, t, T', L, h0, X', hL, e1, e2, ⟨r, hv, hq, hh⟩, st⟩ | ⟨q, st₀, t, T', L, E, ce, h0, X', hL, e1, e2, ⟨hq, hz, hk⟩, hce, hcv, hcl, st⟩
  · cases hv
    obtain ⟨t2, a1, b1⟩ := kk v9 hq T' (by rw [e1, hh, h0]) (Stand.forget X' (fun q h => (hL q h).elim))
    exact ⟨t2, st t2 a1, b1⟩
  · rw [h0] at hz hk
    obtain ⟨t2, a1, b1⟩ := kx E ce q T'.heap hq (by rw [e1]; exact hz) (fun q h1 => by rw [e1]; exact hk q h1) (by rw [e1]; exact hce) hcv hcl T' rfl (Stand.forget X' (fun q h => (hL q h).elim))
    exact ⟨t2, st.trans a1, b1⟩
theorem ms_X {D : va_G} {w wc : va_W} {Qr : Option Value → va_W → Prop} {TX : String → Prop} (hr : vx_Run p l e R s m args below meth c H locs cells slots mc ms (F0 m pc ls st0) rest (qcM D (va_A wc H.size) Qr a) (xcT TX) (va_A wc H.size))
    (hP : va_P D vwCl w H) (hD : va_D A0 w) (hS : va_S A0 H0 H locs) (hA : ∀ q, H0.size ≤ q → A0 q) (isC isR : List Nat) {wr : va_W} (hC : isC.map (fun i => w[i]?) = wc.map some) (hR : isR.map (fun i => w[i]?) = wr.map some) (hn : va_nd isR = true) (hdis : ∀ i ∈ isR, i ∉ isC)
    (kx : ∀ (E : String) (ce : Cell) (q9 : Addr) (H1 : Heap) (locs1 : List Loc), TX E → va_P D vwCl w H1 → va_S A0 H0 H1 locs1 → H.size ≤ H1.size → (∀ q : Nat, q < H.size → H1[q]? = H[q]?) → H1[q9]? = some ce → ce.vm = .none → s.vm.findClass E = some ce.cls → vx_W p l e R s m args below meth c H1 locs1 (cells + mc) (slots + ms) Q (F0 m pc ls rest) q9)
    (kk : ∀ (r : Option Value) (w' : va_W) (H1 : Heap) (locs1 : List Loc), Qr r w' → va_P D vwCl (wr ++ w') H1 → va_D A0 (wr ++ w') → va_S A0 H0 H1 locs1 → W p l e R s m args below meth c H1 locs1 (cells + mc) (slots + ms) Q (F0 m (pc + 3) ls (r.toList ++ rest))) : W p l e R s m args below meth c H locs cells slots Q (F0 m pc ls st0) := by
  intro T hT X
  have hF := va_free (wc := wc) hD hS hA isC hC
  rcases hr T hT X with ⟨v9, st₀, t, T', L, h0, X', hL, e1, e2, ⟨r, w', hv, hq, hp, hd, hz, hk⟩, st⟩ | ⟨q, st₀, t, T', L, E, ce, h0, X', hL, e1, e2, ⟨hq, hz, hk⟩, hce, hcv, hcl, st⟩
  · cases hv
    rw [h0] at hz hk
    obtain ⟨j1, j2⟩ := va_join (H1 := t.heap) hP hD isC isR hC hR hn hdis hk hF hp hd
    obtain ⟨t2, a1, b1⟩ := kk v9 w' T'.heap (locs ++ L) hq (by rw [e1]; exact j1) j2
      ⟨Nat.le_trans hS.1 (by rw [e1]; exact hz), fun q h1 h2 => by rw [e1, hk q (Nat.lt_of_lt_of_le h1 hS.1) (fun z => h2 (hF q z))]; exact hS.2.1 q h1 h2, fun q hq => by
        rcases List.mem_append.mp hq with h | h
        · exact hS.2.2 q h
        · exact hF _ (hL q h)⟩ T' rfl X'
    exact ⟨t2, st t2 a1, b1⟩
  · rw [h0] at hz hk
    obtain ⟨t2, a1, b1⟩ := kx E ce q T'.heap (locs ++ L) hq (hP.kept (fun k z hz9 => by rw [e1]; exact hk _ (hP k z hz9).lt))
      ⟨Nat.le_trans hS.1 (by rw [e1]; exact hz), fun q h1 h2 => by rw [e1, hk q (Nat.lt_of_lt_of_le h1 hS.1)]; exact hS.2.1 q h1 h2, fun q hq => by
        rcases List.mem_append.mp hq with h | h
        · exact hS.2.2 q h
        · exact hF _ (hL q h)⟩ (by rw [e1]; exact hz) (fun q h1 => by rw [e1]; exact hk q h1) (by rw [e1]; exact hce) hcv hcl T' rfl X'
    exact ⟨t2, st.trans a1, b1⟩
end MSB
/-! one instruction -/
section MSI
variable {p : Program} {l : Launch} {e : Env} {R : Room} {s : State} {m : MethodId} {args : Array Value} {below : List Frame} {meth : Method} {c : Code} {H : Heap} {locs : List Loc} {cells slots : Nat} {Q : State → Prop}
variable {cc : ByteArray} {pc : Nat} {ls : Array Slot} {rest : List Value} {D : va_G} {A : Nat → Prop} {a : Nat} {tys : List (ClassId × FieldType)} {ws : va_W} {H0 : Heap}
theorem i_eqi {x y : Int32} (h : x = y) (k : W p l e R s m args below meth c H locs cells slots Q (F0 m pc ls (.int y :: rest))) : W p l e R s m args below meth c H locs cells slots Q (F0 m pc ls (.int x :: rest)) := by rw [h]; exact k
theorem i_eqz {x y : Int} (h : x = y) (k : W p l e R s m args below meth c H locs cells slots Q (F0 m pc ls (iv y :: rest))) : W p l e R s m args below meth c H locs cells slots Q (F0 m pc ls (iv x :: rest)) := by rw [h]; exact k
theorem i_name {x : Int} (k : ∀ y : Int, y = x → W p l e R s m args below meth c H locs cells slots Q (F0 m pc ls (iv y :: rest))) : W p l e R s m args below meth c H locs cells slots Q (F0 m pc ls (iv x :: rest)) := k x rfl
theorem i_iadd (hx : p.tables.exec = Jvm.exec) (hb : c.code = cc) {x y : Int} (d : decode cc pc = .ok (.iadd, 1)) (k : W p l e R s m args below meth c H locs cells slots Q (F0 m (pc + 1) ls (iv (x + y) :: rest))) : W p l e R s m args below meth c H locs cells slots Q (F0 m pc ls (iv y :: iv x :: rest)) := lv_iadd hx hb d (i_eqi (zI_add x y) k)
theorem i_isub (hx : p.tables.exec = Jvm.exec) (hb : c.code = cc) {x y : Int} (d : decode cc pc = .ok (.isub, 1)) (k : W p l e R s m args below meth c H locs cells slots Q (F0 m (pc + 1) ls (iv (x - y) :: rest))) : W p l e R s m args below meth c H locs cells slots Q (F0 m pc ls (iv y :: iv x :: rest)) := lv_isub hx hb d (i_eqi (zI_sub x y) k)
theorem i_imul (hx : p.tables.exec = Jvm.exec) (hb : c.code = cc) {x y : Int} (d : decode cc pc = .ok (.imul, 1)) (k : W p l e R s m args below meth c H locs cells slots Q (F0 m (pc + 1) ls (iv (x * y) :: rest))) : W p l e R s m args below meth c H locs cells slots Q (F0 m pc ls (iv y :: iv x :: rest)) := lv_imul hx hb d (i_eqi (zI_mul x y) k)
theorem i_idiv (hx : p.tables.exec = Jvm.exec) (hb : c.code = cc) {x y : Int} (h0 : 0 ≤ x) (h1 : x < 2147483648) (h2 : 0 < y) (h3 : y < 2147483648) (d : decode cc pc = .ok (.idiv, 1)) (k : W p l e R s m args below meth c H locs cells slots Q (F0 m (pc + 1) ls (iv (x / y) :: rest))) : W p l e R s m args below meth c H locs cells slots Q (F0 m pc ls (iv y :: iv x :: rest)) := lv_idiv hx hb d (zI_ne0 h2 h3) (i_eqi (zI_div h0 h1 h2 h3) k)
theorem i_irem (hx : p.tables.exec = Jvm.exec) (hb : c.code = cc) {x y : Int} (h0 : 0 ≤ x) (h1 : x < 2147483648) (h2 : 0 < y) (h3 : y < 2147483648) (d : decode cc pc = .ok (.irem, 1)) (k : W p l e R s m args below meth c H locs cells slots Q (F0 m (pc + 1) ls (iv (x % y) :: rest))) : W p l e R s m args below meth c H locs cells slots Q (F0 m pc ls (iv y :: iv x :: rest)) := lv_irem hx hb d (zI_ne0 h2 h3) (i_eqi (zI_rem h0 h1 h2 h3) k)
theorem i_iald (hx : p.tables.exec = Jvm.exec) (hb : c.code = cc) (hK : va_K D vwCl tys s) (hP : va_P D vwCl ws H) (q0 t0 : Nat) {cA : ClassId} {n : Nat} {f : Int → Int} (ha : ws[q0]? = some (a, ar cA n f)) (ht : tys[t0]? = some (cA, .int)) {i : Int} (h0 : 0 ≤ i) (h1 : i < n) (hn : n ≤ 2147483648) (d : decode cc pc = .ok (.iaload, 1))
    (k : W p l e R s m args below meth c H locs cells slots Q (F0 m (pc + 1) ls (iv (f i) :: rest))) : W p l e R s m args below meth c H locs cells slots Q (F0 m pc ls (iv i :: .ref a :: rest)) := by
  refine va_iald hx hb hK hP q0 t0 ha ht (zI_in h0 h1 hn) d ?_
  have e1 : (((zI i).toNatClampNeg : Nat) : Int) = i := by rw [zI_cl h0 (by omega)]; omega
  show W p l e R s m args below meth c H locs cells slots Q (F0 m (pc + 1) ls (.int (zI (f (((zI i).toNatClampNeg : Nat) : Int))) :: rest))
  rw [e1]
  exact k
theorem i_iast (hx : p.tables.exec = Jvm.exec) (hb : c.code = cc) (hK : va_K D vwCl tys s) (hP : va_P D vwCl ws H) (hD : va_D A ws) (hS : va_S A H0 H locs) (q0 t0 : Nat) {cA : ClassId} {n : Nat} {f : Int → Int} (ha : ws[q0]? = some (a, ar cA n f)) (ht : tys[t0]? = some (cA, .int)) {i x : Int} (h0 : 0 ≤ i) (h1 : i < n) (hn : n ≤ 2147483648) (d : decode cc pc = .ok (.iastore, 1))
    (k : ∀ (H1 : Heap) (locs1 : List Loc), va_P D vwCl (ws.set q0 (a, ar cA n (ui f i x))) H1 → va_D A (ws.set q0 (a, ar cA n (ui f i x))) → va_S A H0 H1 locs1 → W p l e R s m args below meth c H1 locs1 cells slots Q (F0 m (pc + 1) ls rest)) : W p l e R s m args below meth c H locs cells slots Q (F0 m pc ls (iv x :: iv i :: .ref a :: rest)) := by
  refine va_iast hx hb hK hP hD hS q0 t0 ha ht (zI_in h0 h1 hn) d (fun H1 locs1 h1P h1D h1S => ?_)
  rw [ui_eq h0 (by omega)] at h1P h1D
  exact k H1 locs1 h1P h1D h1S
theorem i_max (hx : p.tables.exec = Jvm.exec) (hb : c.code = cc) (hml : c.maxLocals = ls.size) {own : String} {index : Nat} (hown : s.vm.findClass own = some m.cls) (hlink : (Cond.methodLink own index Lib.Math.max.name).before args s = true) (hstat : (Cond.static Lib.Math.max.name).before args s = true) (hini : (Cond.initialized "java/lang/Math").before args s = true) (hcode : (Cond.code Lib.Math.max.name Lib.Math.max.code 2 (some .int)).before args s = true)
    (hR : 1 ≤ R.frames ∧ 21 ≤ R.locals ∧ cells ≤ R.cells ∧ slots ≤ R.slots) (hr8 : (rest.map fun v => v.category).sum ≤ 8) {x y : Int} (bx : zB x) (bY : zB y) (d : decode cc pc = .ok (.invokestatic index, 3))
    (k : W p l e R s m args below meth c H locs cells slots Q (F0 m (pc + 3) ls (iv (max x y) :: rest))) : W p l e R s m args below meth c H locs cells slots Q (F0 m pc ls (iv y :: iv x :: rest)) := va_mmax hx hb hml hown hlink hstat hini hcode hR.1 (by have := hR.2.1; omega) hR.2.2.1 hR.2.2.2 d (i_eqi (zI_max bx bY) k)
theorem i_min (hx : p.tables.exec = Jvm.exec) (hb : c.code = cc) (hml : c.maxLocals = ls.size) {own : String} {index : Nat} (hown : s.vm.findClass own = some m.cls) (hlink : (Cond.methodLink own index Lib.Math.min.name).before args s = true) (hstat : (Cond.static Lib.Math.min.name).before args s = true) (hini : (Cond.initialized "java/lang/Math").before args s = true) (hcode : (Cond.code Lib.Math.min.name Lib.Math.min.code 2 (some .int)).before args s = true)
    (hR : 1 ≤ R.frames ∧ 21 ≤ R.locals ∧ cells ≤ R.cells ∧ slots ≤ R.slots) (hr8 : (rest.map fun v => v.category).sum ≤ 8) {x y : Int} (bx : zB x) (bY : zB y) (d : decode cc pc = .ok (.invokestatic index, 3))
    (k : W p l e R s m args below meth c H locs cells slots Q (F0 m (pc + 3) ls (iv (min x y) :: rest))) : W p l e R s m args below meth c H locs cells slots Q (F0 m pc ls (iv y :: iv x :: rest)) := va_mmin hx hb hml hown hlink hstat hini hcode hR.1 (by have := hR.2.1; omega) hR.2.2.1 hR.2.2.2 d (i_eqi (zI_min bx bY) k)
theorem zB0 : zB 0 := ⟨by decide, by decide⟩
theorem i_icmp_eq (hx : p.tables.exec = Jvm.exec) (hb : c.code = cc) {x y : Int} (bx : zB x) (bY : zB y) {off : Int} {tgt : Nat} (d : decode cc pc = .ok (.if_icmp .eq off, 3)) (ht : (pc : Int) + off = (tgt : Int)) (kt : x = y → W p l e R s m args below meth c H locs cells slots Q (F0 m tgt ls rest)) (kf : ¬ x = y → W p l e R s m args below meth c H locs cells slots Q (F0 m (pc + 3) ls rest)) : W p l e R s m args below meth c H locs cells slots Q (F0 m pc ls (iv y :: iv x :: rest)) := lv_icmp_eq hx hb d ht (fun h => kt ((zI_eq bx bY).mp h)) (fun h => kf (fun q => h ((zI_eq bx bY).mpr q)))
theorem i_if_eq (hx : p.tables.exec = Jvm.exec) (hb : c.code = cc) {x : Int} (bx : zB x) {off : Int} {tgt : Nat} (d : decode cc pc = .ok (.ifCond .eq off, 3)) (ht : (pc : Int) + off = (tgt : Int)) (kt : x = 0 → W p l e R s m args below meth c H locs cells slots Q (F0 m tgt ls rest)) (kf : ¬ x = 0 → W p l e R s m args below meth c H locs cells slots Q (F0 m (pc + 3) ls rest)) : W p l e R s m args below meth c H locs cells slots Q (F0 m pc ls (iv x :: rest)) := lv_if_eq hx hb d ht (fun h => kt ((zI_eq bx zB0).mp h)) (fun h => kf (fun q => h ((zI_eq bx zB0).mpr q)))
theorem i_icmp_ne (hx : p.tables.exec = Jvm.exec) (hb : c.code = cc) {x y : Int} (bx : zB x) (bY : zB y) {off : Int} {tgt : Nat} (d : decode cc pc = .ok (.if_icmp .ne off, 3)) (ht : (pc : Int) + off = (tgt : Int)) (kt : ¬ x = y → W p l e R s m args below meth c H locs cells slots Q (F0 m tgt ls rest)) (kf : x = y → W p l e R s m args below meth c H locs cells slots Q (F0 m (pc + 3) ls rest)) : W p l e R s m args below meth c H locs cells slots Q (F0 m pc ls (iv y :: iv x :: rest)) := lv_icmp_ne hx hb d ht (fun h => kt (fun q => h ((zI_eq bx bY).mpr q))) (fun h => kf ((zI_eq bx bY).mp h))
theorem i_if_ne (hx : p.tables.exec = Jvm.exec) (hb : c.code = cc) {x : Int} (bx : zB x) {off : Int} {tgt : Nat} (d : decode cc pc = .ok (.ifCond .ne off, 3)) (ht : (pc : Int) + off = (tgt : Int)) (kt : ¬ x = 0 → W p l e R s m args below meth c H locs cells slots Q (F0 m tgt ls rest)) (kf : x = 0 → W p l e R s m args below meth c H locs cells slots Q (F0 m (pc + 3) ls rest)) : W p l e R s m args below meth c H locs cells slots Q (F0 m pc ls (iv x :: rest)) := lv_if_ne hx hb d ht (fun h => kt (fun q => h ((zI_eq bx zB0).mpr q))) (fun h => kf ((zI_eq bx zB0).mp h))
theorem i_icmp_lt (hx : p.tables.exec = Jvm.exec) (hb : c.code = cc) {x y : Int} (bx : zB x) (bY : zB y) {off : Int} {tgt : Nat} (d : decode cc pc = .ok (.if_icmp .lt off, 3)) (ht : (pc : Int) + off = (tgt : Int)) (kt : x < y → W p l e R s m args below meth c H locs cells slots Q (F0 m tgt ls rest)) (kf : ¬ x < y → W p l e R s m args below meth c H locs cells slots Q (F0 m (pc + 3) ls rest)) : W p l e R s m args below meth c H locs cells slots Q (F0 m pc ls (iv y :: iv x :: rest)) := lv_icmp_lt hx hb d ht (fun h => kt ((zI_lt bx bY).mp h)) (fun h => kf (fun q => h ((zI_lt bx bY).mpr q)))
theorem i_if_lt (hx : p.tables.exec = Jvm.exec) (hb : c.code = cc) {x : Int} (bx : zB x) {off : Int} {tgt : Nat} (d : decode cc pc = .ok (.ifCond .lt off, 3)) (ht : (pc : Int) + off = (tgt : Int)) (kt : x < 0 → W p l e R s m args below meth c H locs cells slots Q (F0 m tgt ls rest)) (kf : ¬ x < 0 → W p l e R s m args below meth c H locs cells slots Q (F0 m (pc + 3) ls rest)) : W p l e R s m args below meth c H locs cells slots Q (F0 m pc ls (iv x :: rest)) := lv_if_lt hx hb d ht (fun h => kt ((zI_lt bx zB0).mp h)) (fun h => kf (fun q => h ((zI_lt bx zB0).mpr q)))
theorem i_icmp_ge (hx : p.tables.exec = Jvm.exec) (hb : c.code = cc) {x y : Int} (bx : zB x) (bY : zB y) {off : Int} {tgt : Nat} (d : decode cc pc = .ok (.if_icmp .ge off, 3)) (ht : (pc : Int) + off = (tgt : Int)) (kt : y ≤ x → W p l e R s m args below meth c H locs cells slots Q (F0 m tgt ls rest)) (kf : ¬ y ≤ x → W p l e R s m args below meth c H locs cells slots Q (F0 m (pc + 3) ls rest)) : W p l e R s m args below meth c H locs cells slots Q (F0 m pc ls (iv y :: iv x :: rest)) := lv_icmp_ge hx hb d ht (fun h => kt ((zI_le bY bx).mp h)) (fun h => kf (fun q => h ((zI_le bY bx).mpr q)))
theorem i_if_ge (hx : p.tables.exec = Jvm.exec) (hb : c.code = cc) {x : Int} (bx : zB x) {off : Int} {tgt : Nat} (d : decode cc pc = .ok (.ifCond .ge off, 3)) (ht : (pc : Int) + off = (tgt : Int)) (kt : 0 ≤ x → W p l e R s m args below meth c H locs cells slots Q (F0 m tgt ls rest)) (kf : ¬ 0 ≤ x → W p l e R s m args below meth c H locs cells slots Q (F0 m (pc + 3) ls rest)) : W p l e R s m args below meth c H locs cells slots Q (F0 m pc ls (iv x :: rest)) := lv_if_ge hx hb d ht (fun h => kt ((zI_le zB0 bx).mp h)) (fun h => kf (fun q => h ((zI_le zB0 bx).mpr q)))
theorem i_icmp_gt (hx : p.tables.exec = Jvm.exec) (hb : c.code = cc) {x y : Int} (bx : zB x) (bY : zB y) {off : Int} {tgt : Nat} (d : decode cc pc = .ok (.if_icmp .gt off, 3)) (ht : (pc : Int) + off = (tgt : Int)) (kt : y < x → W p l e R s m args below meth c H locs cells slots Q (F0 m tgt ls rest)) (kf : ¬ y < x → W p l e R s m args below meth c H locs cells slots Q (F0 m (pc + 3) ls rest)) : W p l e R s m args below meth c H locs cells slots Q (F0 m pc ls (iv y :: iv x :: rest)) := lv_icmp_gt hx hb d ht (fun h => kt ((zI_lt bY bx).mp h)) (fun h => kf (fun q => h ((zI_lt bY bx).mpr q)))
theorem i_if_gt (hx : p.tables.exec = Jvm.exec) (hb : c.code = cc) {x : Int} (bx : zB x) {off : Int} {tgt : Nat} (d : decode cc pc = .ok (.ifCond .gt off, 3)) (ht : (pc : Int) + off = (tgt : Int)) (kt : 0 < x → W p l e R s m args below meth c H locs cells slots Q (F0 m tgt ls rest)) (kf : ¬ 0 < x → W p l e R s m args below meth c H locs cells slots Q (F0 m (pc + 3) ls rest)) : W p l e R s m args below meth c H locs cells slots Q (F0 m pc ls (iv x :: rest)) := lv_if_gt hx hb d ht (fun h => kt ((zI_lt zB0 bx).mp h)) (fun h => kf (fun q => h ((zI_lt zB0 bx).mpr q)))
theorem i_icmp_le (hx : p.tables.exec = Jvm.exec) (hb : c.code = cc) {x y : Int} (bx : zB x) (bY : zB y) {off : Int} {tgt : Nat} (d : decode cc pc = .ok (.if_icmp .le off, 3)) (ht : (pc : Int) + off = (tgt : Int)) (kt : x ≤ y → W p l e R s m args below meth c H locs cells slots Q (F0 m tgt ls rest)) (kf : ¬ x ≤ y → W p l e R s m args below meth c H locs cells slots Q (F0 m (pc + 3) ls rest)) : W p l e R s m args below meth c H locs cells slots Q (F0 m pc ls (iv y :: iv x :: rest)) := lv_icmp_le hx hb d ht (fun h => kt ((zI_le bx bY).mp h)) (fun h => kf (fun q => h ((zI_le bx bY).mpr q)))
theorem i_if_le (hx : p.tables.exec = Jvm.exec) (hb : c.code = cc) {x : Int} (bx : zB x) {off : Int} {tgt : Nat} (d : decode cc pc = .ok (.ifCond .le off, 3)) (ht : (pc : Int) + off = (tgt : Int)) (kt : x ≤ 0 → W p l e R s m args below meth c H locs cells slots Q (F0 m tgt ls rest)) (kf : ¬ x ≤ 0 → W p l e R s m args below meth c H locs cells slots Q (F0 m (pc + 3) ls rest)) : W p l e R s m args below meth c H locs cells slots Q (F0 m pc ls (iv x :: rest)) := lv_if_le hx hb d ht (fun h => kt ((zI_le bx zB0).mp h)) (fun h => kf (fun q => h ((zI_le bx zB0).mpr q)))
/-- both branches come to one place: its walk once -/
theorem i_join {P G : Prop} (hj : P) (k : P → G) : G := k hj
theorem i_iinc (hx : p.tables.exec = Jvm.exec) (hb : c.code = cc) {i nL k : Nat} {n x : Int} {lv lv' : List (Nat × Value)} (hdg : decode cc pc = .ok (.iinc i n, 3)) (h : lv_has ls nL lv) (hk : lv[k]? = some (i, iv x)) (hn : i < nL) (hl : (i, iv (x + n)) :: lv.filter (fun q => !(q.1 == i) && !(q.1 + 1 == i && q.2.category == 2)) = lv')
    (kk : ∀ ls' : Array Slot, lv_has ls' nL lv' → W p l e R s m args below meth c H locs cells slots Q (F0 m (pc + 3) ls' rest)) : W p l e R s m args below meth c H locs cells slots Q (F0 m pc ls rest) := lv_iinc hx hb hdg h hk (zI_add x n) hn hl kk
theorem i_eqv {x y : Value} (h : x = y) (k : W p l e R s m args below meth c H locs cells slots Q (F0 m pc ls (y :: rest))) : W p l e R s m args below meth c H locs cells slots Q (F0 m pc ls (x :: rest)) := by rw [h]; exact k
theorem k_int {cI cA : ClassId} {t : List (ClassId × FieldType)} (hK : va_K D vwCl ((cI, .int) :: t) s) (hK1 : va_K D vwCl (((cI, .int) :: t) ++ [(cA, .int)]) s) : cA = cI := by
  have h1 := (hK.2 0 _ rfl).2
  have h2 := (hK1.2 (((cI, FieldType.int) :: t).length) (cA, .int) (by simp)).2
  exact Option.some.inj (Eq.trans (Eq.symm (show s.vm.findClass _ = some cA from h2)) (show s.vm.findClass _ = some cI from h1))
theorem k_obj {cI cS cJ cA : ClassId} (hK : va_K D vwCl (tyL cI cS cJ) s) (hK1 : va_K D vwCl (tyL cI cS cJ ++ [(cA, .object "MarkdownPlanner$Store")]) s) : cA = cS := by
  obtain ⟨k1, c1, -, -, -, h1⟩ := (hK.2 1 _ rfl).2
  obtain ⟨k2, c2, -, -, -, h2⟩ := (hK1.2 3 _ rfl).2
  exact Option.some.inj (Eq.trans (Eq.symm h2) h1)
theorem k_long {cI cS cJ cA : ClassId} (hK : va_K D vwCl (tyL cI cS cJ) s) (hK1 : va_K D vwCl (tyL cI cS cJ ++ [(cA, .long)]) s) : cA = cJ := by
  have h1 := (hK.2 2 _ rfl).2
  have h2 := (hK1.2 3 _ rfl).2
  exact Option.some.inj (Eq.trans (Eq.symm (show s.vm.findClass _ = some cA from h2)) (show s.vm.findClass _ = some cJ from h1))
theorem zI_0 : zI 0 = 0 := by decide
theorem i_newa (hx : p.tables.exec = Jvm.exec) (hb : c.code = cc) (harr : (Cond.arrayClass .int).before args s = true) {cI cS cJ : ClassId} (hK : va_K D vwCl (tyL cI cS cJ) s) (hP : va_P D vwCl ws H) (hD : va_D A ws) (hS : va_S A H0 H locs) (hA : ∀ q, H0.size ≤ q → A q) {n : Int} {N : Nat} (en : n = (N : Int)) (hN : N ≤ 100000000) (hc : cells + 1 ≤ R.cells) (hs : slots + N ≤ R.slots) (d : decode cc pc = .ok (.newarray .int, 2))
    (k : ∀ (q : Nat) (H1 : Heap), va_P D vwCl (ws ++ [(q, ar cI N (fun _ => 0))]) H1 → va_D A (ws ++ [(q, ar cI N (fun _ => 0))]) → va_S A H0 H1 locs → W p l e R s m args below meth c H1 locs (cells + 1) (slots + N) Q (F0 m (pc + 2) ls (.ref q :: rest))) : W p l e R s m args below meth c H locs cells slots Q (F0 m pc ls (iv n :: rest)) := by
  refine va_newa (atype := .int) (ty := .int) (n := zI n) (N' := N) (a0 := (N, .inl (fun j => zI ((fun _ => (0 : Int)) ((j : Nat) : Int))))) hx hb harr rfl hK hP hD hS hA (fun cA => by simp only [vp_cell_i, zI_0]; rfl) ?_ ?_ ?_ hc hs d (fun q cA H1 hK1 hP1 hD1 hS1 => ?_)
  · have h0 : ¬ zI n < zI 0 := fun h => by rw [zI_lt ⟨by omega, by omega⟩ ⟨by omega, by omega⟩] at h; omega
    exact h0
  · rw [zI_cl (by omega) (by omega)]; omega
  · show N * 4 ≤ 536870912
    omega
  · rw [k_int hK hK1] at hP1 hD1
    exact k q H1 hP1 hD1 hS1
theorem i_newl (hx : p.tables.exec = Jvm.exec) (hb : c.code = cc) (harr : (Cond.arrayClass .long).before args s = true) {cI cS cJ : ClassId} (hK : va_K D vwCl (tyL cI cS cJ) s) (hP : va_P D vwCl ws H) (hD : va_D A ws) (hS : va_S A H0 H locs) (hA : ∀ q, H0.size ≤ q → A q) {n : Int} {N : Nat} (en : n = (N : Int)) (hN : N ≤ 10000000) (hc : cells + 1 ≤ R.cells) (hs : slots + N ≤ R.slots) (d : decode cc pc = .ok (.newarray .long, 2))
    (k : ∀ (q : Nat) (H1 : Heap), va_P D vwCl (ws ++ [(q, .inl (cJ, N, .inr (.inl (fun _ => 0))))]) H1 → va_D A (ws ++ [(q, .inl (cJ, N, .inr (.inl (fun _ => 0))))]) → va_S A H0 H1 locs → W p l e R s m args below meth c H1 locs (cells + 1) (slots + N) Q (F0 m (pc + 2) ls (.ref q :: rest))) : W p l e R s m args below meth c H locs cells slots Q (F0 m pc ls (iv n :: rest)) := by
  refine va_newa (atype := .long) (ty := .long) (n := zI n) (N' := N) (a0 := (N, .inr (.inl (fun _ => 0)))) hx hb harr rfl hK hP hD hS hA (fun cA => rfl) ?_ ?_ ?_ hc hs d (fun q cA H1 hK1 hP1 hD1 hS1 => ?_)
  · have h0 : ¬ zI n < zI 0 := fun h => by rw [zI_lt ⟨by omega, by omega⟩ ⟨by omega, by omega⟩] at h; omega
    exact h0
  · rw [zI_cl (by omega) (by omega)]; omega
  · show N * 8 ≤ 536870912
    omega
  · rw [k_long hK hK1] at hP1 hD1
    exact k q H1 hP1 hD1 hS1
theorem i_newq (hx : p.tables.exec = Jvm.exec) (hb : c.code = cc) {own : String} {index : Nat} (hown : s.vm.findClass own = some m.cls) (hcl : (Cond.classLink own index "MarkdownPlanner$Store").before args s = true) (hAO : va_AO "MarkdownPlanner$Store" s) {cI cS cJ : ClassId} (hK : va_K D vwCl (tyL cI cS cJ) s) (hP : va_P D vwCl ws H) (hD : va_D A ws) (hS : va_S A H0 H locs) (hA : ∀ q, H0.size ≤ q → A q) {n : Int} {N : Nat} (en : n = (N : Int)) (hN : N ≤ 10000000) (hc : cells + 1 ≤ R.cells) (hs : slots + N ≤ R.slots) (d : decode cc pc = .ok (.anewarray index, 3))
    (k : ∀ (q : Nat) (H1 : Heap), va_P D vwCl (ws ++ [(q, .inl (cS, N, .inr (.inr (.inr (.inr (fun _ => none))))))]) H1 → va_D A (ws ++ [(q, .inl (cS, N, .inr (.inr (.inr (.inr (fun _ => none))))))]) → va_S A H0 H1 locs → W p l e R s m args below meth c H1 locs (cells + 1) (slots + N) Q (F0 m (pc + 3) ls (.ref q :: rest))) : W p l e R s m args below meth c H locs cells slots Q (F0 m pc ls (iv n :: rest)) := by
  refine va_newq (n := zI n) (N' := N) hx hb hown hcl hAO hK hP hD hS hA ?_ ?_ (by omega) hc hs d (fun q cA H1 hK1 hP1 hD1 hS1 => ?_)
  · have h0 : ¬ zI n < zI 0 := fun h => by rw [zI_lt ⟨by omega, by omega⟩ ⟨by omega, by omega⟩] at h; omega
    exact h0
  · rw [zI_cl (by omega) (by omega)]; omega
  · rw [k_obj hK hK1] at hP1 hD1
    exact k q H1 hP1 hD1 hS1
/-- a place of the world holds another thing that says the same -/
theorem p_set {a1 q0 : Nat} {e1 e2 : va_E} (h : ∀ H9 : Heap, va_at D vwCl (a1, e1) H9 → va_at D vwCl (a1, e2) H9) (hP : va_P D vwCl (ws.set q0 (a1, e1)) H) : va_P D vwCl (ws.set q0 (a1, e2)) H := by
  intro k q hk
  rw [List.getElem?_set] at hk
  by_cases hq : q0 = k
  · rw [if_pos hq] at hk
    by_cases hl : q0 < ws.length
    · rw [if_pos hl] at hk
      cases hk
      exact h H (hP k _ (by rw [List.getElem?_set, if_pos hq, if_pos hl]))
    · rw [if_neg hl] at hk; cases hk
  · rw [if_neg hq] at hk
    exact hP k q (by rw [List.getElem?_set, if_neg hq]; exact hk)
theorem d_set {a1 q0 : Nat} {e1 e2 : va_E} (hD : va_D A (ws.set q0 (a1, e1))) : va_D A (ws.set q0 (a1, e2)) := by
  have key : ∀ (k : Nat) (q : Nat × va_E), (ws.set q0 (a1, e2))[k]? = some q → ∃ q9 : Nat × va_E, (ws.set q0 (a1, e1))[k]? = some q9 ∧ q9.1 = q.1 := by
    intro k q hk
    rw [List.getElem?_set] at hk
    by_cases hq : q0 = k
    · rw [if_pos hq] at hk
      by_cases hl : q0 < ws.length
      · rw [if_pos hl] at hk
        cases hk
        exact ⟨(a1, e1), by rw [List.getElem?_set, if_pos hq, if_pos hl], rfl⟩
      · rw [if_neg hl] at hk; cases hk
    · rw [if_neg hq] at hk
      exact ⟨q, by rw [List.getElem?_set, if_neg hq]; exact hk, rfl⟩
  refine ⟨fun i j x y hx hy hxy => ?_, fun k q hk => ?_⟩
  · obtain ⟨x9, a2, a3⟩ := key i x hx
    obtain ⟨y9, b2, b3⟩ := key j y hy
    exact hD.1 i j x9 y9 a2 b2 (a3.trans (hxy.trans b3.symm))
  · obtain ⟨q9, a2, a3⟩ := key k q hk
    rw [← a3]
    exact hD.2 k q9 a2
/-- a whole row is copied -/
theorem i_copy (hx : p.tables.exec = Jvm.exec) (hb : c.code = cc) (hml : c.maxLocals = ls.size) {own : String} {index : Nat} (hown : s.vm.findClass own = some m.cls) (hlink : (Cond.methodLink own index arraycopyName).before args s = true) (hnat : (Cond.native arraycopyName).before args s = true) (hstat : (Cond.static arraycopyName).before args s = true) (hini : (Cond.initialized "java/lang/System").before args s = true)
    (hK : va_K D vwCl tys s) (hP : va_P D vwCl ws H) (hD : va_D A ws) (hS : va_S A H0 H locs) (q0 q1 : Nat) {a0 : Nat} {cI : ClassId} {n : Int} {N : Nat} {f g : Int → Int} (ha0 : ws[q0]? = some (a0, ar cI N f)) (ha1 : ws[q1]? = some (a, ar cI N g)) (ht : tys[0]? = some (cI, .int)) (en : n = (N : Int)) (hN : N ≤ 100000000)
    (hR : 1 ≤ R.frames ∧ 26 ≤ R.locals) (hr8 : (rest.map fun v => v.category).sum ≤ 8) (d : decode cc pc = .ok (.invokestatic index, 3))
    (k : ∀ (H1 : Heap) (locs1 : List Loc), va_P D vwCl (ws.set q1 (a, ar cI N f)) H1 → va_D A (ws.set q1 (a, ar cI N f)) → va_S A H0 H1 locs1 → W p l e R s m args below meth c H1 locs1 cells slots Q (F0 m (pc + 3) ls rest)) : W p l e R s m args below meth c H locs cells slots Q (F0 m pc ls (iv n :: iv 0 :: .ref a :: iv 0 :: .ref a0 :: rest)) := by
  have z0 : (zI 0).toNatClampNeg = 0 := by rw [zI_cl (by omega) (by omega)]; rfl
  have zn : (zI n).toNatClampNeg = N := by rw [zI_cl (by omega) (by omega)]; omega
  have h0 : ¬ zI 0 < 0 := by decide
  have hn0 : ¬ zI n < zI 0 := fun h => by rw [zI_lt ⟨by omega, by omega⟩ ⟨by omega, by omega⟩] at h; omega
  have hnl : (rest.map fun v => v.category).sum + (nativeFrameWords "java/lang/System" "arraycopy" 5 + 11) ≤ R.locals := by
    have e9 : nativeFrameWords "java/lang/System" "arraycopy" 5 = 7 := by decide
    have e8 := hR.2
    rw [e9]; omega
  refine va_copyi hx hb hml hown hlink hnat hstat hini hK hP hD hS q0 q1 0 0 ha0 ha1 ht ht rfl h0 h0 hn0 (by rw [z0, zn]; omega) (by rw [z0, zn]; omega) (fun i _ => rfl) hR.1 hnl d (fun H1 locs1 h1P h1D h1S => ?_)
  rw [z0, zn] at h1P h1D
  refine k H1 locs1 (p_set (fun H9 h9 => ?_) h1P) (d_set h1D) h1S
  have e1 : vp_cell cI (N, .inl (va_cpy (fun j => zI (f ((j : Nat) : Int))) (fun j => zI (g ((j : Nat) : Int))) 0 0 N)) = vp_cell cI (N, .inl (fun j => zI (f ((j : Nat) : Int)))) := by
    simp only [vp_cell_i, arrV]
    congr 1
    refine congrArg _ ?_
    funext j
    have hj := j.isLt
    simp only [va_cpy]
    rw [if_pos ⟨Nat.zero_le _, by omega⟩]
    simp
  have h2 : H9[a]? = some (vp_cell cI (N, .inl (va_cpy (fun j => zI (f ((j : Nat) : Int))) (fun j => zI (g ((j : Nat) : Int))) 0 0 N))) := h9
  rw [e1] at h2
  exact h2
end MSI
/-! ends -/
section MSE
variable {p : Program} {l : Launch} {e : Env} {R : Room} {s : State} {m : MethodId} {args : Array Value} {below : List Frame} {meth : Method} {c : Code} {H : Heap} {locs : List Loc} {cells slots : Nat}
variable {cc : ByteArray} {pc : Nat} {ls : Array Slot} {D : va_G} {A : Nat → Prop} {w' : va_W} {Qr : Option Value → va_W → Prop} {Qt : Option Value → Prop} {TX : String → Prop} {mc ms : Nat} {free : Addr → Prop}
theorem r_P {v : Int32} {ret : FieldType} (hx : p.tables.exec = Jvm.exec) (hb : c.code = cc) (hr : meth.sig.returnType = some ret) (hlocks : meth.locks = false) (hn : narrow ret (.int v) = .int v) (d : decode cc pc = .ok (.ireturn, 1)) {v' : Int32} (hv : v = v') : W p l e R s m args below meth c s.heap [] cells slots (MQ below (vp_Si (fun r => r = v')) args s cells slots (fun _ => False)) (F0 m pc ls [.int v]) := by
  refine W.zret hx hb hr hn (fun t ht hW => ⟨v, rfl, hv, ht⟩) (fun q h => by cases h) d hlocks
theorem r_Mi {v : Int32} {ret : FieldType} (hx : p.tables.exec = Jvm.exec) (hb : c.code = cc) (hr : meth.sig.returnType = some ret) (hlocks : meth.locks = false) (hn : narrow ret (.int v) = .int v) (d : decode cc pc = .ok (.ireturn, 1)) (hS : va_S A s.heap H locs) (hP : va_P D vwCl w' H) (hD : va_D A w') (hq : Qr (some (.int v)) w') (hc : cells ≤ mc) (hs : slots ≤ ms) : W p l e R s m args below meth c H locs cells slots (MQ below (qcM D A Qr) args s mc ms A) (F0 m pc ls [.int v]) := by
  refine W.widen hc hs ?_
  exact W.zret hx hb hr hn (fun t ht hW => ⟨_, w', rfl, hq, by rw [ht]; exact hP, hD, hS.F ht⟩) hS.2.2 d hlocks
theorem r_Mv (hx : p.tables.exec = Jvm.exec) (hb : c.code = cc) (hr : meth.sig.returnType = none) (hlocks : meth.locks = false) (d : decode cc pc = .ok (.return_, 1)) (hS : va_S A s.heap H locs) (hP : va_P D vwCl w' H) (hD : va_D A w') (hq : Qr none w') (hc : cells ≤ mc) (hs : slots ≤ ms) : W p l e R s m args below meth c H locs cells slots (MQ below (qcM D A Qr) args s mc ms A) (F0 m pc ls []) := by
  refine W.widen hc hs ?_
  exact W.vret hx hb hr (fun t ht hW => ⟨_, w', rfl, hq, by rw [ht]; exact hP, hD, hS.F ht⟩) hS.2.2 d hlocks
theorem r_Ti {v : Int32} {ret : FieldType} (hx : p.tables.exec = Jvm.exec) (hb : c.code = cc) (hr : meth.sig.returnType = some ret) (hlocks : meth.locks = false) (hn : narrow ret (.int v) = .int v) (d : decode cc pc = .ok (.ireturn, 1)) (hq : Qt (some (.int v))) (hc : cells ≤ mc) (hs : slots ≤ ms) : W p l e R s m args below meth c s.heap [] cells slots (vx_MQ below (qcT Qt) (xcT TX) args s mc ms free) (F0 m pc ls [.int v]) := by
  refine W.widen hc hs (vx_ret ?_)
  exact W.zret hx hb hr hn (fun t ht hW => ⟨_, rfl, hq, ht⟩) (fun q h => by cases h) d hlocks
theorem r_Tv (hx : p.tables.exec = Jvm.exec) (hb : c.code = cc) (hr : meth.sig.returnType = none) (hlocks : meth.locks = false) (d : decode cc pc = .ok (.return_, 1)) (hq : Qt none) (hc : cells ≤ mc) (hs : slots ≤ ms) : W p l e R s m args below meth c s.heap [] cells slots (vx_MQ below (qcT Qt) (xcT TX) args s mc ms free) (F0 m pc ls []) := by
  refine W.widen hc hs (vx_ret ?_)
  exact W.vret hx hb hr (fun t ht hW => ⟨_, rfl, hq, ht⟩) (fun q h => by cases h) d hlocks
theorem r_Ta {a : Nat} {rt : String} (hx : p.tables.exec = Jvm.exec) (hb : c.code = cc) (hr : meth.sig.returnType = some (.object rt)) (hlocks : meth.locks = false) (d : decode cc pc = .ok (.areturn, 1)) (hq : Qt (some (.ref a))) (hc : cells ≤ mc) (hs : slots ≤ ms) : W p l e R s m args below meth c s.heap [] cells slots (vx_MQ below (qcT Qt) (xcT TX) args s mc ms free) (F0 m pc ls [.ref a]) := by
  refine W.widen hc hs (vx_ret ?_)
  exact W.aret hx hb hr (Or.inl ⟨_, rfl⟩) (Or.inr ⟨_, rfl⟩) (fun t ht hW => ⟨_, rfl, hq, ht⟩) (fun q h => by cases h) d hlocks
theorem r_Xi {v : Int32} {ret : FieldType} (hx : p.tables.exec = Jvm.exec) (hb : c.code = cc) (hr : meth.sig.returnType = some ret) (hlocks : meth.locks = false) (hn : narrow ret (.int v) = .int v) (d : decode cc pc = .ok (.ireturn, 1)) (hS : va_S A s.heap H locs) (hP : va_P D vwCl w' H) (hD : va_D A w') (hq : Qr (some (.int v)) w') (hc : cells ≤ mc) (hs : slots ≤ ms) : W p l e R s m args below meth c H locs cells slots (vx_MQ below (qcM D A Qr) (xcT TX) args s mc ms A) (F0 m pc ls [.int v]) := by
  refine W.widen hc hs (vx_ret ?_)
  exact W.zret hx hb hr hn (fun t ht hW => ⟨_, w', rfl, hq, by rw [ht]; exact hP, hD, hS.F ht⟩) hS.2.2 d hlocks
theorem r_Xv (hx : p.tables.exec = Jvm.exec) (hb : c.code = cc) (hr : meth.sig.returnType = none) (hlocks : meth.locks = false) (d : decode cc pc = .ok (.return_, 1)) (hS : va_S A s.heap H locs) (hP : va_P D vwCl w' H) (hD : va_D A w') (hq : Qr none w') (hc : cells ≤ mc) (hs : slots ≤ ms) : W p l e R s m args below meth c H locs cells slots (vx_MQ below (qcM D A Qr) (xcT TX) args s mc ms A) (F0 m pc ls []) := by
  refine W.widen hc hs (vx_ret ?_)
  exact W.vret hx hb hr (fun t ht hW => ⟨_, w', rfl, hq, by rw [ht]; exact hP, hD, hS.F ht⟩) hS.2.2 d hlocks
/-- what a callee threw goes on to the caller -/
theorem r_out {Qc : Array Value → State → Outcome → State → Prop} {rest : List Value} {E : String} {ce : Cell} {q9 : Addr} {H1 : Heap} (ht : ∀ x ∈ c.exceptionTable.toList, False) (hlocks : meth.locks = false) (hE : TX E) (hz : s.heap.size ≤ H1.size) (hk : ∀ q : Nat, q < s.heap.size → H1[q]? = s.heap[q]?) (hce : H1[q9]? = some ce) (hcv : ce.vm = .none) (hcl : s.vm.findClass E = some ce.cls) (hf : ∀ z ∈ locs, free z.base) (hc : cells ≤ mc) (hs : slots ≤ ms) :
    vx_W p l e R s m args below meth c H1 locs cells slots (vx_MQ below Qc (xcT TX) args s mc ms free) (F0 m pc ls rest) q9 :=
  vx_out (fun x h => (ht x h).elim) hlocks hce hcv hcl (fun t hT hW => ⟨hE, by rw [hT]; exact hz, fun q h => by rw [hT]; exact hk q h⟩) hf hc hs
theorem r_thr {Qc : Array Value → State → Outcome → State → Prop} {rest : List Value} (hx : p.tables.exec = Jvm.exec) (hb : c.code = cc) (hst : l.stackTraces = false) {cls text : String} {ik is ic : Nat} (hown : s.vm.findClass RX3 = some m.cls) (hcls : cls = xIA ∨ cls = xIS) (hE : ev s)
    (hk : (Cond.classLink RX3 ik cls).before args s = true) (hini : (Cond.initialized cls).before args s = true) (htx : (is, text) ∈ evS) (hat : ∀ w ∈ (vx_atS RX3 ic cls ["java/lang/RuntimeException", "java/lang/Exception"]).filter goodWord, w.before args s = true)
    (hbad : ∀ w ∈ (vx_atS RX3 ic cls ["java/lang/RuntimeException", "java/lang/Exception"]).filter (fun w => !goodWord w), w ∈ evL) (hgood : ∀ w ∈ Cond.classLink RX3 ik cls :: Cond.initialized cls :: vx_atS RX3 ic cls ["java/lang/RuntimeException", "java/lang/Exception"], vx_ot w = true)
    (hZ : Zs (fun q => s.heap.size ≤ q) s s.heap) (hsize : ls.size = c.maxLocals) (d0 : decode cc pc = .ok (.new ik, 3)) (d3 : decode cc (pc + 3) = .ok (.dup, 1)) (d4 : decode cc (pc + 4) = .ok (.ldc is, 2)) (d6 : decode cc (pc + 6) = .ok (.invokespecial ic, 3)) (d9 : decode cc (pc + 9) = .ok (.athrow, 1))
    (ht : ∀ x ∈ c.exceptionTable.toList, False) (hR : 6 ≤ R.frames ∧ 90 ≤ R.locals ∧ cells + 1 ≤ R.cells ∧ slots + 6 ≤ R.slots) (hr8 : (rest.map fun v => v.category).sum ≤ 8) (hlocks : meth.locks = false) (hT : TX cls) (hc : cells + 1 ≤ mc) (hs : slots + 6 ≤ ms) :
    W p l e R s m args below meth c s.heap [] cells slots (vx_MQ below Qc (xcT TX) args s mc ms free) (F0 m pc ls rest) := by
  obtain ⟨sa, hsa⟩ := hE.2.1 _ htx
  refine vx_throwS (A := fun q => s.heap.size ≤ q) hx hb hst (names := ["java/lang/RuntimeException", "java/lang/Exception"]) hown (by rcases hcls with rfl | rfl <;> decide +kernel) (by decide +kernel) hk hini hsa (vx_hat hat hbad (fun w hw => va_Nw.use (evw_tab (evL_ok w hw)) (hE.1 w hw))) hgood hZ.1 hZ.2 va_S.rf hsize d0 d3 d4 d6 d9 (fun x h => (ht x h).elim) (by have := hR.1; simp only [List.length_cons, List.length_nil]; omega) (by have := hR.2.1; simp only [List.length_cons, List.length_nil]; omega) hR.2.2.1 hR.2.2.2 hlocks (fun t hal hz hk9 => ⟨hT, hz, hk9⟩) (fun z h => by cases h) hc hs
end MSE
end
section
/-! what a store's numbers say -/
/-- how many sizes are in stock -/
def szs (k : Int → Int) : Int := (if 0 < k 0 then 1 else 0) + (if 0 < k 1 then 1 else 0) + (if 0 < k 2 then 1 else 0)
/-- the whole stock -/
def whl (k : Int → Int) : Int := k 0 + k 1 + k 2
/-- what is sold in a week at a demand -/
def slv (dm : Int) (k : Int → Int) : Int := min (dm * szs k / 3) (whl k)
/-- weeks to wait: last markdown, gap, week -/
def wtv (md g wk : Int) : Int := if md = -1 then 0 else max 0 (md + g - wk)
def fu1 (k : Int → Int) : Int := if k 0 < k 1 then 1 else 0
/-- the fullest size -/
def fst (k : Int → Int) : Int := if k (fu1 k) < k 2 then 2 else fu1 k
theorem szs_in (k : Int → Int) : 0 ≤ szs k ∧ szs k ≤ 3 := by
  unfold szs
  by_cases h0 : 0 < k 0 <;> by_cases h1 : 0 < k 1 <;> by_cases h2 : 0 < k 2 <;> simp only [h0, h1, h2, if_true, if_false] <;> decide
theorem fu1_in (k : Int → Int) : 0 ≤ fu1 k ∧ fu1 k ≤ 1 := by
  unfold fu1
  by_cases h : k 0 < k 1 <;> simp only [h, if_true, if_false] <;> decide
theorem fst_in (k : Int → Int) : 0 ≤ fst k ∧ fst k ≤ 2 := by
  have h1 := fu1_in k
  unfold fst
  by_cases h : k (fu1 k) < k 2
  · rw [if_pos h]; decide
  · rw [if_neg h]; omega
/-- a piece goes -/
def dec1 (k : Int → Int) : Int → Int := ui k (fst k) (k (fst k) - 1)
def decn (k : Int → Int) : Nat → Int → Int
  | 0 => k
  | n + 1 => dec1 (decn k n)
theorem whl_dec1 (k : Int → Int) : whl (dec1 k) = whl k - 1 := by
  have h := fst_in k
  have h3 : fst k = 0 ∨ fst k = 1 ∨ fst k = 2 := by omega
  unfold whl dec1
  rcases h3 with e | e | e <;> rw [e] <;> simp [ui] <;> omega
theorem whl_decn (k : Int → Int) (n : Nat) : whl (decn k n) = whl k - n := by
  induction n with
  | zero => simp [decn]
  | succ n ih => show whl (dec1 (decn k n)) = _; rw [whl_dec1, ih]; omega
/-- the fullest holds something, where anything is -/
theorem fst_pos {k : Int → Int} (h0 : 0 ≤ k 0) (h1 : 0 ≤ k 1) (h2 : 0 ≤ k 2) (h : 0 < whl k) : 0 < k (fst k) := by
  unfold whl at h
  unfold fst fu1
  by_cases a : k 0 < k 1
  · simp only [if_pos a]
    by_cases b : k 1 < k 2
    · rw [if_pos b]; omega
    · rw [if_neg b]; omega
  · simp only [if_neg a]
    by_cases b : k 0 < k 2
    · rw [if_pos b]; omega
    · rw [if_neg b]; omega
def Nn3 (k : Int → Int) : Prop := 0 ≤ k 0 ∧ 0 ≤ k 1 ∧ 0 ≤ k 2
theorem dec1_nn {k : Int → Int} (hk : Nn3 k) (h : 0 < whl k) : Nn3 (dec1 k) := by
  obtain ⟨h0, h1, h2⟩ := hk
  have hp := fst_pos h0 h1 h2 h
  have h3 := fst_in k
  have h4 : fst k = 0 ∨ fst k = 1 ∨ fst k = 2 := by omega
  unfold dec1
  rcases h4 with e | e | e <;> rw [e] at hp ⊢ <;> simp only [Nn3, ui] <;> simp <;> omega
theorem decn_nn {k : Int → Int} (hk : Nn3 k) (n : Nat) (h : (n : Int) ≤ whl k) : Nn3 (decn k n) := by
  induction n with
  | zero => exact hk
  | succ n ih => exact dec1_nn (ih (by omega)) (by rw [whl_decn]; omega)
theorem slv_in {dm : Int} {k : Int → Int} (hd : 0 ≤ dm) (hk : Nn3 k) : 0 ≤ slv dm k ∧ slv dm k ≤ whl k := by
  obtain ⟨h0, h1, h2⟩ := hk
  have h3 := szs_in k
  have h4 : 0 ≤ dm * szs k := Int.mul_nonneg hd h3.1
  have h5 : 0 ≤ dm * szs k / 3 := Int.ediv_nonneg h4 (by decide)
  unfold slv
  have h6 : 0 ≤ whl k := by unfold whl; omega
  omega
end
section
abbrev rm_X2_init : Room := { frames := 1, cells := 2, slots := 8, locals := 20 }
set_option maxHeartbeats 4000000 in
set_option maxRecDepth 100000 in
/-- a new store -/
theorem mt_X2_init (l : Launch) (D : va_G) (cI cS cJ : ClassId) (h : Nat)  : cM l yX2_init wsX2_init rm_X2_init [.ref h] D (tyL cI cS cJ) [(h, ob 2 [.null, .null, iv 0, iv 0, iv 0])] (fun r_ w_ => ∃ hd : Nat, ∃ hp : Nat, r_ = none ∧ w_ = [(h, ob 2 [.ref hd, .ref hp, iv 0, iv (-1), iv 0]), (hd, ar cI 5 ((fun _ => 0))), (hp, ar cI 3 ((fun _ => 0)))]) 2 8 := by
  refine en_M (cc := cX2_init) (maxL := 1) (ret := none) (by decide) rfl (Nat.le_of_ble_eq_true rfl) ?_
  intro p e s m args below meth c ls A hX hE hP hK hD hS hA hl Q hQ
  obtain ⟨hx, hb, hr, hml, hts, hown, hlocks, hnm⟩ := hX
  have hown : s.vm.findClass RX2 = some m.cls := hown
  have hl : lv_has ls 1 [(0, .ref h)] := hl
  have inX2 : ∀ w ∈ u_ws RX2 TX2 5, w ∈ wsX2_init := by decide +kernel
  have w0 : (Cond.methodLink RX2 3 objectInit).before args s = true := hts _ (by decide +kernel)
  have w1 : (Cond.instanceMethod objectInit).before args s = true := hts _ (by decide +kernel)
  have w2 : (Cond.code objectInit ⟨#[0xb1]⟩ 1 none).before args s = true := hts _ (by decide +kernel)
  have w3 : (Cond.arrayClass .int).before args s = true := hts _ (by decide +kernel)
  have w4 : (Cond.fieldLink RX2 9 RX2 "demands" "[I").before args s = true := hts _ (by decide +kernel)
  have w5 : (Cond.fieldLink RX2 15 RX2 "pieces" "[I").before args s = true := hts _ (by decide +kernel)
  have w6 : (Cond.fieldLink RX2 18 RX2 "markedDownIn" "I").before args s = true := hts _ (by decide +kernel)
  refine lv_aload_n hx hb dX2_init_0 rfl (lv_at hl 0 rfl) ?_
  refine W.objInit hx hb hown w0 w1 w2 rfl (by rw [hml]; exact hl.1) rfl dX2_init_1 (Nat.le_of_ble_eq_true rfl) (Nat.le_of_ble_eq_true rfl) ?_
  refine W.eq (g2 := F0 m 4 ls []) rfl ?_
  refine lv_aload_n hx hb dX2_init_4 rfl (lv_at hl 0 rfl) ?_
  refine lv_iconst (v := zI 5) hx hb dX2_init_5 rfl ?_
  refine i_newa (n := 5) (N := 5) hx hb w3 hK hP hD hS hA rfl (Nat.le_of_ble_eq_true rfl) (Nat.le_of_ble_eq_true rfl) (Nat.le_of_ble_eq_true rfl) dX2_init_6 (fun q_1 H hP hD hS => ?_)
  have hP : va_P D vwCl [(h, ob 2 [.null, .null, iv 0, iv 0, iv 0]), (q_1, ar cI 5 ((fun _ => 0)))] H := hP
  have hD : va_D A [(h, ob 2 [.null, .null, iv 0, iv 0, iv 0]), (q_1, ar cI 5 ((fun _ => 0)))] := hD
  refine va_putF (D := D) (ci := 2) (v := .ref q_1) (ty := (.array .int)) (C := RX2) (T := TX2) (N := 5) hx hb hts inX2 tyX2 tyX2_ok nmX2 hown hK hP hD hS 0 rfl rfl 0 (by decide) w4 (fun _ h9 => h9) rfl hnm rfl (by decide +kernel) rfl rfl (Nat.le_of_ble_eq_true rfl) dX2_init_8 (fun H locs hP hD hS => ?_)
  have hP : va_P D vwCl [(h, ob 2 [.ref q_1, .null, iv 0, iv 0, iv 0]), (q_1, ar cI 5 ((fun _ => 0)))] H := hP
  have hD : va_D A [(h, ob 2 [.ref q_1, .null, iv 0, iv 0, iv 0]), (q_1, ar cI 5 ((fun _ => 0)))] := hD
  refine lv_aload_n hx hb dX2_init_11 rfl (lv_at hl 0 rfl) ?_
  refine lv_iconst (v := zI 3) hx hb dX2_init_12 rfl ?_
  refine i_newa (n := 3) (N := 3) hx hb w3 hK hP hD hS hA rfl (Nat.le_of_ble_eq_true rfl) (Nat.le_of_ble_eq_true rfl) (Nat.le_of_ble_eq_true rfl) dX2_init_13 (fun q_2 H hP hD hS => ?_)
  have hP : va_P D vwCl [(h, ob 2 [.ref q_1, .null, iv 0, iv 0, iv 0]), (q_1, ar cI 5 ((fun _ => 0))), (q_2, ar cI 3 ((fun _ => 0)))] H := hP
  have hD : va_D A [(h, ob 2 [.ref q_1, .null, iv 0, iv 0, iv 0]), (q_1, ar cI 5 ((fun _ => 0))), (q_2, ar cI 3 ((fun _ => 0)))] := hD
  refine va_putF (D := D) (ci := 2) (v := .ref q_2) (ty := (.array .int)) (C := RX2) (T := TX2) (N := 5) hx hb hts inX2 tyX2 tyX2_ok nmX2 hown hK hP hD hS 0 rfl rfl 1 (by decide) w5 (fun _ h9 => h9) rfl hnm rfl (by decide +kernel) rfl rfl (Nat.le_of_ble_eq_true rfl) dX2_init_15 (fun H locs hP hD hS => ?_)
  have hP : va_P D vwCl [(h, ob 2 [.ref q_1, .ref q_2, iv 0, iv 0, iv 0]), (q_1, ar cI 5 ((fun _ => 0))), (q_2, ar cI 3 ((fun _ => 0)))] H := hP
  have hD : va_D A [(h, ob 2 [.ref q_1, .ref q_2, iv 0, iv 0, iv 0]), (q_1, ar cI 5 ((fun _ => 0))), (q_2, ar cI 3 ((fun _ => 0)))] := hD
  refine lv_aload_n hx hb dX2_init_18 rfl (lv_at hl 0 rfl) ?_
  refine lv_iconst (v := zI (-1)) hx hb dX2_init_19 rfl ?_
  refine va_put (D := D) (ci := 2) (v := iv (-1)) (ty := .int) (C := RX2) (T := TX2) (N := 5) hx hb hts inX2 tyX2 tyX2_ok nmX2 hown hK hP hD hS 0 rfl rfl 3 (by decide) w6 (fun _ h9 => h9) rfl (by decide +kernel) rfl rfl (Nat.le_of_ble_eq_true rfl) dX2_init_20 (fun H locs hP hD hS => ?_)
  have hP : va_P D vwCl [(h, ob 2 [.ref q_1, .ref q_2, iv 0, iv (-1), iv 0]), (q_1, ar cI 5 ((fun _ => 0))), (q_2, ar cI 3 ((fun _ => 0)))] H := hP
  have hD : va_D A [(h, ob 2 [.ref q_1, .ref q_2, iv 0, iv (-1), iv 0]), (q_1, ar cI 5 ((fun _ => 0))), (q_2, ar cI 3 ((fun _ => 0)))] := hD
  subst hQ
  exact r_Mv hx hb hr hlocks dX2_init_23 hS (hP.sub (ws' := [(h, ob 2 [.ref q_1, .ref q_2, iv 0, iv (-1), iv 0]), (q_1, ar cI 5 ((fun _ => 0))), (q_2, ar cI 3 ((fun _ => 0)))]) [0, 1, 2] rfl) (hD.sub (ws' := [(h, ob 2 [.ref q_1, .ref q_2, iv 0, iv (-1), iv 0]), (q_1, ar cI 5 ((fun _ => 0))), (q_2, ar cI 3 ((fun _ => 0)))]) [0, 1, 2] (by decide) rfl) (⟨q_1, q_2, rfl, rfl⟩) (Nat.le_of_ble_eq_true rfl) (Nat.le_of_ble_eq_true rfl)

abbrev rm_X2_startAnew : Room := { frames := 0, cells := 0, slots := 0, locals := 0 }
set_option maxHeartbeats 4000000 in
set_option maxRecDepth 100000 in
/-- a season begins -/
theorem mt_X2_startAnew (l : Launch) (D : va_G) (cI cS cJ : ClassId) (h : Nat) (hd : Nat) (hp : Nat) (d : Int → Int) (k : Int → Int) (st : Int) (md : Int) (ps : Int)  : cM l yX2_startAnew wsX2_startAnew rm_X2_startAnew [.ref h] D (tyL cI cS cJ) [(h, ob 2 [.ref hd, .ref hp, iv st, iv md, iv ps]), (hd, ar cI 5 d), (hp, ar cI 3 k)] (fun r_ w_ => r_ = none ∧ w_ = [(h, ob 2 [.ref hd, .ref hp, iv 0, iv (-1), iv 0]), (hd, ar cI 5 d), (hp, ar cI 3 k)]) 0 0 := by
  refine en_M (cc := cX2_startAnew) (maxL := 1) (ret := none) (by decide) rfl (Nat.le_of_ble_eq_true rfl) ?_
  intro p e s m args below meth c ls A hX hE hP hK hD hS hA hl Q hQ
  obtain ⟨hx, hb, hr, hml, hts, hown, hlocks, hnm⟩ := hX
  have hown : s.vm.findClass RX2 = some m.cls := hown
  have hl : lv_has ls 1 [(0, .ref h)] := hl
  have inX2 : ∀ w ∈ u_ws RX2 TX2 5, w ∈ wsX2_startAnew := by decide +kernel
  have w0 : (Cond.fieldLink RX2 22 RX2 "step" "I").before args s = true := hts _ (by decide +kernel)
  have w1 : (Cond.fieldLink RX2 18 RX2 "markedDownIn" "I").before args s = true := hts _ (by decide +kernel)
  have w2 : (Cond.fieldLink RX2 25 RX2 "piecesSold" "I").before args s = true := hts _ (by decide +kernel)
  refine lv_aload_n hx hb dX2_startAnew_0 rfl (lv_at hl 0 rfl) ?_
  refine lv_iconst (v := zI 0) hx hb dX2_startAnew_1 rfl ?_
  refine va_put (D := D) (ci := 2) (v := iv 0) (ty := .int) (C := RX2) (T := TX2) (N := 5) hx hb hts inX2 tyX2 tyX2_ok nmX2 hown hK hP hD hS 0 rfl rfl 2 (by decide) w0 (fun _ h9 => h9) rfl (by decide +kernel) rfl rfl (Nat.le_of_ble_eq_true rfl) dX2_startAnew_2 (fun H locs hP hD hS => ?_)
  have hP : va_P D vwCl [(h, ob 2 [.ref hd, .ref hp, iv 0, iv md, iv ps]), (hd, ar cI 5 d), (hp, ar cI 3 k)] H := hP
  have hD : va_D A [(h, ob 2 [.ref hd, .ref hp, iv 0, iv md, iv ps]), (hd, ar cI 5 d), (hp, ar cI 3 k)] := hD
  refine lv_aload_n hx hb dX2_startAnew_5 rfl (lv_at hl 0 rfl) ?_
  refine lv_iconst (v := zI (-1)) hx hb dX2_startAnew_6 rfl ?_
  refine va_put (D := D) (ci := 2) (v := iv (-1)) (ty := .int) (C := RX2) (T := TX2) (N := 5) hx hb hts inX2 tyX2 tyX2_ok nmX2 hown hK hP hD hS 0 rfl rfl 3 (by decide) w1 (fun _ h9 => h9) rfl (by decide +kernel) rfl rfl (Nat.le_of_ble_eq_true rfl) dX2_startAnew_7 (fun H locs hP hD hS => ?_)
  have hP : va_P D vwCl [(h, ob 2 [.ref hd, .ref hp, iv 0, iv (-1), iv ps]), (hd, ar cI 5 d), (hp, ar cI 3 k)] H := hP
  have hD : va_D A [(h, ob 2 [.ref hd, .ref hp, iv 0, iv (-1), iv ps]), (hd, ar cI 5 d), (hp, ar cI 3 k)] := hD
  refine lv_aload_n hx hb dX2_startAnew_10 rfl (lv_at hl 0 rfl) ?_
  refine lv_iconst (v := zI 0) hx hb dX2_startAnew_11 rfl ?_
  refine va_put (D := D) (ci := 2) (v := iv 0) (ty := .int) (C := RX2) (T := TX2) (N := 5) hx hb hts inX2 tyX2 tyX2_ok nmX2 hown hK hP hD hS 0 rfl rfl 4 (by decide) w2 (fun _ h9 => h9) rfl (by decide +kernel) rfl rfl (Nat.le_of_ble_eq_true rfl) dX2_startAnew_12 (fun H locs hP hD hS => ?_)
  have hP : va_P D vwCl [(h, ob 2 [.ref hd, .ref hp, iv 0, iv (-1), iv 0]), (hd, ar cI 5 d), (hp, ar cI 3 k)] H := hP
  have hD : va_D A [(h, ob 2 [.ref hd, .ref hp, iv 0, iv (-1), iv 0]), (hd, ar cI 5 d), (hp, ar cI 3 k)] := hD
  subst hQ
  exact r_Mv hx hb hr hlocks dX2_startAnew_15 hS (hP.sub (ws' := [(h, ob 2 [.ref hd, .ref hp, iv 0, iv (-1), iv 0]), (hd, ar cI 5 d), (hp, ar cI 3 k)]) [0, 1, 2] rfl) (hD.sub (ws' := [(h, ob 2 [.ref hd, .ref hp, iv 0, iv (-1), iv 0]), (hd, ar cI 5 d), (hp, ar cI 3 k)]) [0, 1, 2] (by decide) rfl) (⟨rfl, rfl⟩) (Nat.le_of_ble_eq_true rfl) (Nat.le_of_ble_eq_true rfl)

abbrev rm_X2_waitFrom : Room := { frames := 1, cells := 0, slots := 0, locals := 21 }
set_option maxHeartbeats 4000000 in
set_option maxRecDepth 100000 in
/-- weeks to wait -/
theorem mt_X2_waitFrom (l : Launch) (D : va_G) (cI cS cJ : ClassId) (h : Nat) (hd : Nat) (hp : Nat) (d : Int → Int) (k : Int → Int) (st : Int) (md : Int) (ps : Int) (wk : Int) (g : Int) (hm : -1 ≤ md ∧ md ≤ 100) (hg : 0 ≤ g ∧ g ≤ 100) (hwk : 0 ≤ wk ∧ wk ≤ 100) : cP l yX2_waitFrom wsX2_waitFrom rm_X2_waitFrom [.ref h, iv wk, iv g] D (tyL cI cS cJ) [(h, ob 2 [.ref hd, .ref hp, iv st, iv md, iv ps]), (hd, ar cI 5 d), (hp, ar cI 3 k)] (zI (wtv md g wk)) := by
  refine en_P (cc := cX2_waitFrom) (maxL := 3) (ret := (some .int)) (by decide) rfl (Nat.le_of_ble_eq_true rfl) ?_
  intro p e s m args below meth c ls hX hE hP hK hl Q hQ
  obtain ⟨hx, hb, hr, hml, hts, hown, hlocks, hnm⟩ := hX
  have hown : s.vm.findClass RX2 = some m.cls := hown
  have hl : lv_has ls 3 [(0, .ref h), (1, iv wk), (2, iv g)] := hl
  have inX2 : ∀ w ∈ u_ws RX2 TX2 5, w ∈ wsX2_waitFrom := by decide +kernel
  have w0 : (Cond.fieldLink RX2 18 RX2 "markedDownIn" "I").before args s = true := hts _ (by decide +kernel)
  have w1 : (Cond.methodLink RX2 28 Lib.Math.max.name).before args s = true := hts _ (by decide +kernel)
  have w2 : (Cond.static Lib.Math.max.name).before args s = true := hts _ (by decide +kernel)
  have w3 : (Cond.initialized "java/lang/Math").before args s = true := hts _ (by decide +kernel)
  have w4 : (Cond.code Lib.Math.max.name Lib.Math.max.code 2 (some .int)).before args s = true := hts _ (by decide +kernel)
  refine lv_aload_n hx hb dX2_waitFrom_0 rfl (lv_at hl 0 rfl) ?_
  refine va_get (D := D) (ci := 2) (v := iv md) (C := RX2) (T := TX2) (N := 5) hx hb hts inX2 hown hK hP 0 rfl rfl 3 (by decide) w0 (fun _ h9 => h9) rfl dX2_waitFrom_1 ?_
  refine lv_iconst (v := zI (-1)) hx hb dX2_waitFrom_4 rfl ?_
  refine i_icmp_ne (tgt := 12) hx hb ⟨by omega, by omega⟩ ⟨by decide, by decide⟩ dX2_waitFrom_5 (by decide) (fun c_1 => ?_) (fun c_1 => ?_)
  · skip
    refine lv_iconst (v := zI 0) hx hb dX2_waitFrom_12 rfl ?_
    refine lv_aload_n hx hb dX2_waitFrom_13 rfl (lv_at hl 0 rfl) ?_
    refine va_get (D := D) (ci := 2) (v := iv md) (C := RX2) (T := TX2) (N := 5) hx hb hts inX2 hown hK hP 0 rfl rfl 3 (by decide) w0 (fun _ h9 => h9) rfl dX2_waitFrom_14 ?_
    refine lv_iload_n hx hb dX2_waitFrom_17 rfl (lv_at hl 2 rfl) ?_
    refine i_iadd hx hb dX2_waitFrom_18 ?_
    refine lv_iload_n hx hb dX2_waitFrom_19 rfl (lv_at hl 1 rfl) ?_
    refine i_isub hx hb dX2_waitFrom_20 ?_
    refine i_max hx hb (hml.trans hl.1.symm) hown w1 w2 w3 w4 ⟨Nat.le_of_ble_eq_true rfl, Nat.le_of_ble_eq_true rfl, Nat.le_of_ble_eq_true rfl, Nat.le_of_ble_eq_true rfl⟩ (Nat.le_of_ble_eq_true rfl) ⟨by decide, by decide⟩ ⟨by omega, by omega⟩ dX2_waitFrom_21 ?_
    subst hQ
    exact r_P hx hb hr hlocks (by rfl) dX2_waitFrom_24 (by congr 1; unfold wtv; first | (rw [if_pos (by assumption)]) | (rw [if_neg (by assumption)]))
  · skip
    refine lv_iconst (v := zI 0) hx hb dX2_waitFrom_8 rfl ?_
    refine lv_goto (tgt := 24) hx hb dX2_waitFrom_9 (by decide) ?_
    subst hQ
    exact r_P hx hb hr hlocks (by rfl) dX2_waitFrom_24 (by congr 1; unfold wtv; first | (rw [if_pos (by assumption)]) | (rw [if_neg (by assumption)]))

abbrev rm_X2_wholeStock : Room := { frames := 0, cells := 0, slots := 0, locals := 0 }
set_option maxHeartbeats 4000000 in
set_option maxRecDepth 100000 in
/-- the whole stock -/
theorem mt_X2_wholeStock (l : Launch) (D : va_G) (cI cS cJ : ClassId) (h : Nat) (hd : Nat) (hp : Nat) (d : Int → Int) (k : Int → Int) (st : Int) (md : Int) (ps : Int)  : cP l yX2_wholeStock wsX2_wholeStock rm_X2_wholeStock [.ref h] D (tyL cI cS cJ) [(h, ob 2 [.ref hd, .ref hp, iv st, iv md, iv ps]), (hd, ar cI 5 d), (hp, ar cI 3 k)] (zI (whl k)) := by
  refine en_P (cc := cX2_wholeStock) (maxL := 3) (ret := (some .int)) (by decide) rfl (Nat.le_of_ble_eq_true rfl) ?_
  intro p e s m args below meth c ls hX hE hP hK hl Q hQ
  obtain ⟨hx, hb, hr, hml, hts, hown, hlocks, hnm⟩ := hX
  have hown : s.vm.findClass RX2 = some m.cls := hown
  have hl : lv_has ls 3 [(0, .ref h)] := hl
  have inX2 : ∀ w ∈ u_ws RX2 TX2 5, w ∈ wsX2_wholeStock := by decide +kernel
  have w0 : (Cond.fieldLink RX2 15 RX2 "pieces" "[I").before args s = true := hts _ (by decide +kernel)
  refine lv_iconst (v := zI 0) hx hb dX2_wholeStock_0 rfl ?_
  refine lv_istore_n (lv' := [(1, iv 0), (0, .ref h)]) hx hb dX2_wholeStock_1 rfl hl (by decide) rfl (fun ls hl => ?_)
  refine lv_iconst (v := zI 0) hx hb dX2_wholeStock_2 rfl ?_
  refine lv_istore_n (lv' := [(2, iv 0), (1, iv 0), (0, .ref h)]) hx hb dX2_wholeStock_3 rfl hl (by decide) rfl (fun ls hl => ?_)
  refine lv_iload_n hx hb dX2_wholeStock_4 rfl (lv_at hl 0 rfl) ?_
  refine lv_iconst (v := zI 3) hx hb dX2_wholeStock_5 rfl ?_
  refine i_icmp_ge (tgt := 24) hx hb ⟨by decide, by decide⟩ ⟨by decide, by decide⟩ dX2_wholeStock_6 (by decide) (fun c_1 => absurd c_1 (by decide)) (fun c_1 => ?_)
  refine lv_iload_n hx hb dX2_wholeStock_9 rfl (lv_at hl 1 rfl) ?_
  refine lv_aload_n hx hb dX2_wholeStock_10 rfl (lv_at hl 2 rfl) ?_
  refine va_get (D := D) (ci := 2) (v := .ref hp) (C := RX2) (T := TX2) (N := 5) hx hb hts inX2 hown hK hP 0 rfl rfl 1 (by decide) w0 (fun _ h9 => h9) rfl dX2_wholeStock_11 ?_
  refine lv_iload_n hx hb dX2_wholeStock_14 rfl (lv_at hl 0 rfl) ?_
  refine i_iald hx hb hK hP 2 0 rfl rfl (by decide) (by decide) (by decide) dX2_wholeStock_15 ?_
  refine i_iadd hx hb dX2_wholeStock_16 ?_
  refine lv_istore_n (lv' := [(1, iv (0 + (k 0))), (2, iv 0), (0, .ref h)]) hx hb dX2_wholeStock_17 rfl hl (by decide) rfl (fun ls hl => ?_)
  refine i_iinc (n := 1) (lv' := [(2, iv 1), (1, iv (0 + (k 0))), (0, .ref h)]) hx hb dX2_wholeStock_18 hl (k := 1) rfl (by decide) rfl (fun ls hl => ?_)
  refine lv_goto (tgt := 4) hx hb dX2_wholeStock_21 (by decide) ?_
  refine lv_iload_n hx hb dX2_wholeStock_4 rfl (lv_at hl 0 rfl) ?_
  refine lv_iconst (v := zI 3) hx hb dX2_wholeStock_5 rfl ?_
  refine i_icmp_ge (tgt := 24) hx hb ⟨by decide, by decide⟩ ⟨by decide, by decide⟩ dX2_wholeStock_6 (by decide) (fun c_2 => absurd c_2 (by decide)) (fun c_2 => ?_)
  refine lv_iload_n hx hb dX2_wholeStock_9 rfl (lv_at hl 1 rfl) ?_
  refine lv_aload_n hx hb dX2_wholeStock_10 rfl (lv_at hl 2 rfl) ?_
  refine va_get (D := D) (ci := 2) (v := .ref hp) (C := RX2) (T := TX2) (N := 5) hx hb hts inX2 hown hK hP 0 rfl rfl 1 (by decide) w0 (fun _ h9 => h9) rfl dX2_wholeStock_11 ?_
  refine lv_iload_n hx hb dX2_wholeStock_14 rfl (lv_at hl 0 rfl) ?_
  refine i_iald hx hb hK hP 2 0 rfl rfl (by decide) (by decide) (by decide) dX2_wholeStock_15 ?_
  refine i_iadd hx hb dX2_wholeStock_16 ?_
  refine lv_istore_n (lv' := [(1, iv ((0 + (k 0)) + (k 1))), (2, iv 1), (0, .ref h)]) hx hb dX2_wholeStock_17 rfl hl (by decide) rfl (fun ls hl => ?_)
  refine i_iinc (n := 1) (lv' := [(2, iv 2), (1, iv ((0 + (k 0)) + (k 1))), (0, .ref h)]) hx hb dX2_wholeStock_18 hl (k := 1) rfl (by decide) rfl (fun ls hl => ?_)
  refine lv_goto (tgt := 4) hx hb dX2_wholeStock_21 (by decide) ?_
  refine lv_iload_n hx hb dX2_wholeStock_4 rfl (lv_at hl 0 rfl) ?_
  refine lv_iconst (v := zI 3) hx hb dX2_wholeStock_5 rfl ?_
  refine i_icmp_ge (tgt := 24) hx hb ⟨by decide, by decide⟩ ⟨by decide, by decide⟩ dX2_wholeStock_6 (by decide) (fun c_3 => absurd c_3 (by decide)) (fun c_3 => ?_)
  refine lv_iload_n hx hb dX2_wholeStock_9 rfl (lv_at hl 1 rfl) ?_
  refine lv_aload_n hx hb dX2_wholeStock_10 rfl (lv_at hl 2 rfl) ?_
  refine va_get (D := D) (ci := 2) (v := .ref hp) (C := RX2) (T := TX2) (N := 5) hx hb hts inX2 hown hK hP 0 rfl rfl 1 (by decide) w0 (fun _ h9 => h9) rfl dX2_wholeStock_11 ?_
  refine lv_iload_n hx hb dX2_wholeStock_14 rfl (lv_at hl 0 rfl) ?_
  refine i_iald hx hb hK hP 2 0 rfl rfl (by decide) (by decide) (by decide) dX2_wholeStock_15 ?_
  refine i_iadd hx hb dX2_wholeStock_16 ?_
  refine lv_istore_n (lv' := [(1, iv (((0 + (k 0)) + (k 1)) + (k 2))), (2, iv 2), (0, .ref h)]) hx hb dX2_wholeStock_17 rfl hl (by decide) rfl (fun ls hl => ?_)
  refine i_iinc (n := 1) (lv' := [(2, iv 3), (1, iv (((0 + (k 0)) + (k 1)) + (k 2))), (0, .ref h)]) hx hb dX2_wholeStock_18 hl (k := 1) rfl (by decide) rfl (fun ls hl => ?_)
  refine lv_goto (tgt := 4) hx hb dX2_wholeStock_21 (by decide) ?_
  refine lv_iload_n hx hb dX2_wholeStock_4 rfl (lv_at hl 0 rfl) ?_
  refine lv_iconst (v := zI 3) hx hb dX2_wholeStock_5 rfl ?_
  refine i_icmp_ge (tgt := 24) hx hb ⟨by decide, by decide⟩ ⟨by decide, by decide⟩ dX2_wholeStock_6 (by decide) (fun c_4 => ?_) (fun c_4 => absurd (by decide) c_4)
  refine lv_iload_n hx hb dX2_wholeStock_24 rfl (lv_at hl 1 rfl) ?_
  subst hQ
  exact r_P hx hb hr hlocks (by rfl) dX2_wholeStock_25 (by congr 1; unfold whl; omega)

abbrev rm_X2_sizesInStock : Room := { frames := 0, cells := 0, slots := 0, locals := 0 }
set_option maxHeartbeats 4000000 in
set_option maxRecDepth 100000 in
/-- how many sizes are in stock -/
theorem mt_X2_sizesInStock (l : Launch) (D : va_G) (cI cS cJ : ClassId) (h : Nat) (hd : Nat) (hp : Nat) (d : Int → Int) (k : Int → Int) (st : Int) (md : Int) (ps : Int) (hk : Nn3 k) (hw : whl k ≤ 60) : cP l yX2_sizesInStock wsX2_sizesInStock rm_X2_sizesInStock [.ref h] D (tyL cI cS cJ) [(h, ob 2 [.ref hd, .ref hp, iv st, iv md, iv ps]), (hd, ar cI 5 d), (hp, ar cI 3 k)] (zI (szs k)) := by
  refine en_P (cc := cX2_sizesInStock) (maxL := 3) (ret := (some .int)) (by decide) rfl (Nat.le_of_ble_eq_true rfl) ?_
  intro p e s m args below meth c ls hX hE hP hK hl Q hQ
  obtain ⟨hx, hb, hr, hml, hts, hown, hlocks, hnm⟩ := hX
  have hown : s.vm.findClass RX2 = some m.cls := hown
  have hl : lv_has ls 3 [(0, .ref h)] := hl
  have inX2 : ∀ w ∈ u_ws RX2 TX2 5, w ∈ wsX2_sizesInStock := by decide +kernel
  have w0 : (Cond.fieldLink RX2 15 RX2 "pieces" "[I").before args s = true := hts _ (by decide +kernel)
  obtain ⟨hk0, hk1, hk2⟩ := id hk
  have hw3 : k 0 + k 1 + k 2 ≤ 60 := hw
  refine lv_iconst (v := zI 0) hx hb dX2_sizesInStock_0 rfl ?_
  refine lv_istore_n (lv' := [(1, iv 0), (0, .ref h)]) hx hb dX2_sizesInStock_1 rfl hl (by decide) rfl (fun ls hl => ?_)
  refine lv_iconst (v := zI 0) hx hb dX2_sizesInStock_2 rfl ?_
  refine lv_istore_n (lv' := [(2, iv 0), (1, iv 0), (0, .ref h)]) hx hb dX2_sizesInStock_3 rfl hl (by decide) rfl (fun ls hl => ?_)
  refine lv_iload_n hx hb dX2_sizesInStock_4 rfl (lv_at hl 0 rfl) ?_
  refine lv_iconst (v := zI 3) hx hb dX2_sizesInStock_5 rfl ?_
  refine i_icmp_ge (tgt := 27) hx hb ⟨by decide, by decide⟩ ⟨by decide, by decide⟩ dX2_sizesInStock_6 (by decide) (fun c_1 => absurd c_1 (by decide)) (fun c_1 => ?_)
  refine lv_aload_n hx hb dX2_sizesInStock_9 rfl (lv_at hl 2 rfl) ?_
  refine va_get (D := D) (ci := 2) (v := .ref hp) (C := RX2) (T := TX2) (N := 5) hx hb hts inX2 hown hK hP 0 rfl rfl 1 (by decide) w0 (fun _ h9 => h9) rfl dX2_sizesInStock_10 ?_
  refine lv_iload_n hx hb dX2_sizesInStock_13 rfl (lv_at hl 0 rfl) ?_
  refine i_iald hx hb hK hP 2 0 rfl rfl (by decide) (by decide) (by decide) dX2_sizesInStock_14 ?_
  have J_21 : ∀ (z_2 : Int) (hz_3 : z_2 = 0 + (if 0 < k 0 then 1 else 0)) (ls : Array Slot) (hl : lv_has ls 3 [(1, iv z_2), (2, iv 0), (0, .ref h)]), W p l e rm_X2_sizesInStock s m args below meth c s.heap [] 0 0 Q (F0 m 21 ls []) := by
    intro z_2 hz_3 ls hl
    refine i_iinc (n := 1) (lv' := [(2, iv 1), (1, iv z_2), (0, .ref h)]) hx hb dX2_sizesInStock_21 hl (k := 1) rfl (by decide) rfl (fun ls hl => ?_)
    refine lv_goto (tgt := 4) hx hb dX2_sizesInStock_24 (by decide) ?_
    refine lv_iload_n hx hb dX2_sizesInStock_4 rfl (lv_at hl 0 rfl) ?_
    refine lv_iconst (v := zI 3) hx hb dX2_sizesInStock_5 rfl ?_
    refine i_icmp_ge (tgt := 27) hx hb ⟨by decide, by decide⟩ ⟨by decide, by decide⟩ dX2_sizesInStock_6 (by decide) (fun c_4 => absurd c_4 (by decide)) (fun c_4 => ?_)
    refine lv_aload_n hx hb dX2_sizesInStock_9 rfl (lv_at hl 2 rfl) ?_
    refine va_get (D := D) (ci := 2) (v := .ref hp) (C := RX2) (T := TX2) (N := 5) hx hb hts inX2 hown hK hP 0 rfl rfl 1 (by decide) w0 (fun _ h9 => h9) rfl dX2_sizesInStock_10 ?_
    refine lv_iload_n hx hb dX2_sizesInStock_13 rfl (lv_at hl 0 rfl) ?_
    refine i_iald hx hb hK hP 2 0 rfl rfl (by decide) (by decide) (by decide) dX2_sizesInStock_14 ?_
    have J_21 : ∀ (z_5 : Int) (hz_6 : z_5 = z_2 + (if 0 < k 1 then 1 else 0)) (ls : Array Slot) (hl : lv_has ls 3 [(1, iv z_5), (2, iv 1), (0, .ref h)]), W p l e rm_X2_sizesInStock s m args below meth c s.heap [] 0 0 Q (F0 m 21 ls []) := by
      intro z_5 hz_6 ls hl
      refine i_iinc (n := 1) (lv' := [(2, iv 2), (1, iv z_5), (0, .ref h)]) hx hb dX2_sizesInStock_21 hl (k := 1) rfl (by decide) rfl (fun ls hl => ?_)
      refine lv_goto (tgt := 4) hx hb dX2_sizesInStock_24 (by decide) ?_
      refine lv_iload_n hx hb dX2_sizesInStock_4 rfl (lv_at hl 0 rfl) ?_
      refine lv_iconst (v := zI 3) hx hb dX2_sizesInStock_5 rfl ?_
      refine i_icmp_ge (tgt := 27) hx hb ⟨by decide, by decide⟩ ⟨by decide, by decide⟩ dX2_sizesInStock_6 (by decide) (fun c_7 => absurd c_7 (by decide)) (fun c_7 => ?_)
      refine lv_aload_n hx hb dX2_sizesInStock_9 rfl (lv_at hl 2 rfl) ?_
      refine va_get (D := D) (ci := 2) (v := .ref hp) (C := RX2) (T := TX2) (N := 5) hx hb hts inX2 hown hK hP 0 rfl rfl 1 (by decide) w0 (fun _ h9 => h9) rfl dX2_sizesInStock_10 ?_
      refine lv_iload_n hx hb dX2_sizesInStock_13 rfl (lv_at hl 0 rfl) ?_
      refine i_iald hx hb hK hP 2 0 rfl rfl (by decide) (by decide) (by decide) dX2_sizesInStock_14 ?_
      have J_21 : ∀ (z_8 : Int) (hz_9 : z_8 = z_5 + (if 0 < k 2 then 1 else 0)) (ls : Array Slot) (hl : lv_has ls 3 [(1, iv z_8), (2, iv 2), (0, .ref h)]), W p l e rm_X2_sizesInStock s m args below meth c s.heap [] 0 0 Q (F0 m 21 ls []) := by
        intro z_8 hz_9 ls hl
        refine i_iinc (n := 1) (lv' := [(2, iv 3), (1, iv z_8), (0, .ref h)]) hx hb dX2_sizesInStock_21 hl (k := 1) rfl (by decide) rfl (fun ls hl => ?_)
        refine lv_goto (tgt := 4) hx hb dX2_sizesInStock_24 (by decide) ?_
        refine lv_iload_n hx hb dX2_sizesInStock_4 rfl (lv_at hl 0 rfl) ?_
        refine lv_iconst (v := zI 3) hx hb dX2_sizesInStock_5 rfl ?_
        refine i_icmp_ge (tgt := 27) hx hb ⟨by decide, by decide⟩ ⟨by decide, by decide⟩ dX2_sizesInStock_6 (by decide) (fun c_10 => ?_) (fun c_10 => absurd (by decide) c_10)
        refine lv_iload_n hx hb dX2_sizesInStock_27 rfl (lv_at hl 1 rfl) ?_
        subst hQ
        exact r_P hx hb hr hlocks (by rfl) dX2_sizesInStock_28 (by congr 1; unfold szs; omega)
      refine i_if_le (tgt := 21) hx hb ⟨by omega, by omega⟩ dX2_sizesInStock_15 (by decide) (fun c_11 => ?_) (fun c_11 => ?_)
      · skip
        exact J_21 z_5 (by omega) ls (lv_sub hl [1, 0, 2] rfl)
      · skip
        refine i_iinc (n := 1) (lv' := [(1, iv (z_5 + 1)), (2, iv 2), (0, .ref h)]) hx hb dX2_sizesInStock_18 hl (k := 1) rfl (by decide) rfl (fun ls hl => ?_)
        exact J_21 (z_5 + 1) (by omega) ls (lv_sub hl [0, 1, 2] rfl)
    refine i_if_le (tgt := 21) hx hb ⟨by omega, by omega⟩ dX2_sizesInStock_15 (by decide) (fun c_12 => ?_) (fun c_12 => ?_)
    · skip
      exact J_21 z_2 (by omega) ls (lv_sub hl [1, 0, 2] rfl)
    · skip
      refine i_iinc (n := 1) (lv' := [(1, iv (z_2 + 1)), (2, iv 1), (0, .ref h)]) hx hb dX2_sizesInStock_18 hl (k := 1) rfl (by decide) rfl (fun ls hl => ?_)
      exact J_21 (z_2 + 1) (by omega) ls (lv_sub hl [0, 1, 2] rfl)
  refine i_if_le (tgt := 21) hx hb ⟨by omega, by omega⟩ dX2_sizesInStock_15 (by decide) (fun c_13 => ?_) (fun c_13 => ?_)
  · skip
    exact J_21 0 (by omega) ls (lv_sub hl [1, 0, 2] rfl)
  · skip
    refine i_iinc (n := 1) (lv' := [(1, iv 1), (2, iv 0), (0, .ref h)]) hx hb dX2_sizesInStock_18 hl (k := 1) rfl (by decide) rfl (fun ls hl => ?_)
    exact J_21 1 (by omega) ls (lv_sub hl [0, 1, 2] rfl)

abbrev rm_X2_fullestSize : Room := { frames := 0, cells := 0, slots := 0, locals := 0 }
set_option maxHeartbeats 4000000 in
set_option maxRecDepth 100000 in
/-- the fullest size -/
theorem mt_X2_fullestSize (l : Launch) (D : va_G) (cI cS cJ : ClassId) (h : Nat) (hd : Nat) (hp : Nat) (d : Int → Int) (k : Int → Int) (st : Int) (md : Int) (ps : Int) (hk : Nn3 k) (hw : whl k ≤ 60) : cP l yX2_fullestSize wsX2_fullestSize rm_X2_fullestSize [.ref h] D (tyL cI cS cJ) [(h, ob 2 [.ref hd, .ref hp, iv st, iv md, iv ps]), (hd, ar cI 5 d), (hp, ar cI 3 k)] (zI (fst k)) := by
  refine en_P (cc := cX2_fullestSize) (maxL := 3) (ret := (some .int)) (by decide) rfl (Nat.le_of_ble_eq_true rfl) ?_
  intro p e s m args below meth c ls hX hE hP hK hl Q hQ
  obtain ⟨hx, hb, hr, hml, hts, hown, hlocks, hnm⟩ := hX
  have hown : s.vm.findClass RX2 = some m.cls := hown
  have hl : lv_has ls 3 [(0, .ref h)] := hl
  have inX2 : ∀ w ∈ u_ws RX2 TX2 5, w ∈ wsX2_fullestSize := by decide +kernel
  have w0 : (Cond.fieldLink RX2 15 RX2 "pieces" "[I").before args s = true := hts _ (by decide +kernel)
  obtain ⟨hk0, hk1, hk2⟩ := id hk
  have hw3 : k 0 + k 1 + k 2 ≤ 60 := hw
  refine lv_iconst (v := zI 0) hx hb dX2_fullestSize_0 rfl ?_
  refine lv_istore_n (lv' := [(1, iv 0), (0, .ref h)]) hx hb dX2_fullestSize_1 rfl hl (by decide) rfl (fun ls hl => ?_)
  refine lv_iconst (v := zI 1) hx hb dX2_fullestSize_2 rfl ?_
  refine lv_istore_n (lv' := [(2, iv 1), (1, iv 0), (0, .ref h)]) hx hb dX2_fullestSize_3 rfl hl (by decide) rfl (fun ls hl => ?_)
  refine lv_iload_n hx hb dX2_fullestSize_4 rfl (lv_at hl 0 rfl) ?_
  refine lv_iconst (v := zI 3) hx hb dX2_fullestSize_5 rfl ?_
  refine i_icmp_ge (tgt := 32) hx hb ⟨by decide, by decide⟩ ⟨by decide, by decide⟩ dX2_fullestSize_6 (by decide) (fun c_1 => absurd c_1 (by decide)) (fun c_1 => ?_)
  refine lv_aload_n hx hb dX2_fullestSize_9 rfl (lv_at hl 2 rfl) ?_
  refine va_get (D := D) (ci := 2) (v := .ref hp) (C := RX2) (T := TX2) (N := 5) hx hb hts inX2 hown hK hP 0 rfl rfl 1 (by decide) w0 (fun _ h9 => h9) rfl dX2_fullestSize_10 ?_
  refine lv_iload_n hx hb dX2_fullestSize_13 rfl (lv_at hl 0 rfl) ?_
  refine i_iald hx hb hK hP 2 0 rfl rfl (by decide) (by decide) (by decide) dX2_fullestSize_14 ?_
  refine lv_aload_n hx hb dX2_fullestSize_15 rfl (lv_at hl 2 rfl) ?_
  refine va_get (D := D) (ci := 2) (v := .ref hp) (C := RX2) (T := TX2) (N := 5) hx hb hts inX2 hown hK hP 0 rfl rfl 1 (by decide) w0 (fun _ h9 => h9) rfl dX2_fullestSize_16 ?_
  refine lv_iload_n hx hb dX2_fullestSize_19 rfl (lv_at hl 1 rfl) ?_
  refine i_iald hx hb hK hP 2 0 rfl rfl (by decide) (by decide) (by decide) dX2_fullestSize_20 ?_
  have J_26 : ∀ (z_2 : Int) (hz_3 : z_2 = if k 0 < k 1 then 1 else 0) (ls : Array Slot) (hl : lv_has ls 3 [(1, iv z_2), (2, iv 1), (0, .ref h)]), W p l e rm_X2_fullestSize s m args below meth c s.heap [] 0 0 Q (F0 m 26 ls []) := by
    intro z_2 hz_3 ls hl
    have hz_3b : 0 ≤ z_2 ∧ z_2 < 3 ∧ 0 ≤ k z_2 ∧ k z_2 ≤ 60 := by rw [hz_3]; split <;> (try simp only [Int.reduceNeg]) <;> omega
    refine i_iinc (n := 1) (lv' := [(2, iv 2), (1, iv z_2), (0, .ref h)]) hx hb dX2_fullestSize_26 hl (k := 1) rfl (by decide) rfl (fun ls hl => ?_)
    refine lv_goto (tgt := 4) hx hb dX2_fullestSize_29 (by decide) ?_
    refine lv_iload_n hx hb dX2_fullestSize_4 rfl (lv_at hl 0 rfl) ?_
    refine lv_iconst (v := zI 3) hx hb dX2_fullestSize_5 rfl ?_
    refine i_icmp_ge (tgt := 32) hx hb ⟨by decide, by decide⟩ ⟨by decide, by decide⟩ dX2_fullestSize_6 (by decide) (fun c_4 => absurd c_4 (by decide)) (fun c_4 => ?_)
    refine lv_aload_n hx hb dX2_fullestSize_9 rfl (lv_at hl 2 rfl) ?_
    refine va_get (D := D) (ci := 2) (v := .ref hp) (C := RX2) (T := TX2) (N := 5) hx hb hts inX2 hown hK hP 0 rfl rfl 1 (by decide) w0 (fun _ h9 => h9) rfl dX2_fullestSize_10 ?_
    refine lv_iload_n hx hb dX2_fullestSize_13 rfl (lv_at hl 0 rfl) ?_
    refine i_iald hx hb hK hP 2 0 rfl rfl (by decide) (by decide) (by decide) dX2_fullestSize_14 ?_
    refine lv_aload_n hx hb dX2_fullestSize_15 rfl (lv_at hl 2 rfl) ?_
    refine va_get (D := D) (ci := 2) (v := .ref hp) (C := RX2) (T := TX2) (N := 5) hx hb hts inX2 hown hK hP 0 rfl rfl 1 (by decide) w0 (fun _ h9 => h9) rfl dX2_fullestSize_16 ?_
    refine lv_iload_n hx hb dX2_fullestSize_19 rfl (lv_at hl 1 rfl) ?_
    refine i_iald hx hb hK hP 2 0 rfl rfl (by omega) (by omega) (by decide) dX2_fullestSize_20 ?_
    have J_26 : ∀ (z_5 : Int) (hz_6 : z_5 = if k z_2 < k 2 then 2 else z_2) (ls : Array Slot) (hl : lv_has ls 3 [(1, iv z_5), (2, iv 2), (0, .ref h)]), W p l e rm_X2_fullestSize s m args below meth c s.heap [] 0 0 Q (F0 m 26 ls []) := by
      intro z_5 hz_6 ls hl
      have hz_6b : 0 ≤ z_5 ∧ z_5 < 3 ∧ 0 ≤ k z_5 ∧ k z_5 ≤ 60 := by rw [hz_6]; split <;> (try simp only [z_2]) <;> omega
      refine i_iinc (n := 1) (lv' := [(2, iv 3), (1, iv z_5), (0, .ref h)]) hx hb dX2_fullestSize_26 hl (k := 1) rfl (by decide) rfl (fun ls hl => ?_)
      refine lv_goto (tgt := 4) hx hb dX2_fullestSize_29 (by decide) ?_
      refine lv_iload_n hx hb dX2_fullestSize_4 rfl (lv_at hl 0 rfl) ?_
      refine lv_iconst (v := zI 3) hx hb dX2_fullestSize_5 rfl ?_
      refine i_icmp_ge (tgt := 32) hx hb ⟨by decide, by decide⟩ ⟨by decide, by decide⟩ dX2_fullestSize_6 (by decide) (fun c_7 => ?_) (fun c_7 => absurd (by decide) c_7)
      refine lv_iload_n hx hb dX2_fullestSize_32 rfl (lv_at hl 1 rfl) ?_
      subst hQ
      exact r_P hx hb hr hlocks (by rfl) dX2_fullestSize_33 (by subst_vars; rfl)
    refine i_icmp_le (tgt := 26) hx hb ⟨by omega, by omega⟩ ⟨by omega, by omega⟩ dX2_fullestSize_21 (by decide) (fun c_8 => ?_) (fun c_8 => ?_)
    · skip
      exact J_26 z_2 (by rw [if_neg (show ¬ k z_2 < k 2 by omega)]) ls (lv_sub hl [1, 0, 2] rfl)
    · skip
      refine lv_iload_n hx hb dX2_fullestSize_24 rfl (lv_at hl 0 rfl) ?_
      refine lv_istore_n (lv' := [(1, iv 2), (2, iv 2), (0, .ref h)]) hx hb dX2_fullestSize_25 rfl hl (by decide) rfl (fun ls hl => ?_)
      exact J_26 2 (by rw [if_pos (show k z_2 < k 2 by omega)]) ls (lv_sub hl [0, 1, 2] rfl)
  refine i_icmp_le (tgt := 26) hx hb ⟨by omega, by omega⟩ ⟨by omega, by omega⟩ dX2_fullestSize_21 (by decide) (fun c_9 => ?_) (fun c_9 => ?_)
  · skip
    exact J_26 0 (by rw [if_neg (show ¬ k 0 < k 1 by omega)]) ls (lv_sub hl [1, 0, 2] rfl)
  · skip
    refine lv_iload_n hx hb dX2_fullestSize_24 rfl (lv_at hl 0 rfl) ?_
    refine lv_istore_n (lv' := [(1, iv 1), (2, iv 1), (0, .ref h)]) hx hb dX2_fullestSize_25 rfl hl (by decide) rfl (fun ls hl => ?_)
    exact J_26 1 (by rw [if_pos (show k 0 < k 1 by omega)]) ls (lv_sub hl [0, 1, 2] rfl)

abbrev rm_X2_salesAt : Room := { frames := 1, cells := 0, slots := 0, locals := 22 }
set_option maxHeartbeats 4000000 in
set_option maxRecDepth 100000 in
/-- sales of a week at a step -/
theorem mt_X2_salesAt (l : Launch) (D : va_G) (cI cS cJ : ClassId) (h : Nat) (hd : Nat) (hp : Nat) (d : Int → Int) (k : Int → Int) (st : Int) (md : Int) (ps : Int) (j : Int) (hk : Nn3 k) (hw : whl k ≤ 60) (hj : 0 ≤ j ∧ j < 5) (hdj : 0 ≤ d (j) ∧ d (j) ≤ 30) : cP l yX2_salesAt wsX2_salesAt rm_X2_salesAt [.ref h, iv j] D (tyL cI cS cJ) [(h, ob 2 [.ref hd, .ref hp, iv st, iv md, iv ps]), (hd, ar cI 5 d), (hp, ar cI 3 k)] (zI (slv (d (j)) k)) := by
  refine en_P (cc := cX2_salesAt) (maxL := 2) (ret := (some .int)) (by decide) rfl (Nat.le_of_ble_eq_true rfl) ?_
  intro p e s m args below meth c ls hX hE hP hK hl Q hQ
  obtain ⟨hx, hb, hr, hml, hts, hown, hlocks, hnm⟩ := hX
  have hown : s.vm.findClass RX2 = some m.cls := hown
  have hl : lv_has ls 2 [(0, .ref h), (1, iv j)] := hl
  have inX2 : ∀ w ∈ u_ws RX2 TX2 5, w ∈ wsX2_salesAt := by decide +kernel
  have w0 : (Cond.fieldLink RX2 9 RX2 "demands" "[I").before args s = true := hts _ (by decide +kernel)
  have w1 : (Cond.methodLink RX2 41 Lib.Math.min.name).before args s = true := hts _ (by decide +kernel)
  have w2 : (Cond.static Lib.Math.min.name).before args s = true := hts _ (by decide +kernel)
  have w3 : (Cond.initialized "java/lang/Math").before args s = true := hts _ (by decide +kernel)
  have w4 : (Cond.code Lib.Math.min.name Lib.Math.min.code 2 (some .int)).before args s = true := hts _ (by decide +kernel)
  obtain ⟨hk0, hk1, hk2⟩ := id hk
  have hw3 : k 0 + k 1 + k 2 ≤ 60 := hw
  have hz3 := szs_in k
  have hm0 : 0 ≤ d j * szs k := Int.mul_nonneg hdj.1 hz3.1
  have hm1 : d j * szs k ≤ 30 * 3 := Int.mul_le_mul hdj.2 hz3.2 hz3.1 (by decide)
  have hm2 : 0 ≤ d j * szs k / 3 := Int.ediv_nonneg hm0 (by decide)
  have hw0 : 0 ≤ whl k := by unfold whl; omega
  refine lv_aload_n hx hb dX2_salesAt_0 rfl (lv_at hl 0 rfl) ?_
  refine va_get (D := D) (ci := 2) (v := .ref hd) (C := RX2) (T := TX2) (N := 5) hx hb hts inX2 hown hK hP 0 rfl rfl 0 (by decide) w0 (fun _ h9 => h9) rfl dX2_salesAt_1 ?_
  refine lv_iload_n hx hb dX2_salesAt_4 rfl (lv_at hl 1 rfl) ?_
  refine i_iald hx hb hK hP 1 0 rfl rfl (by omega) (by omega) (by decide) dX2_salesAt_5 ?_
  refine lv_aload_n hx hb dX2_salesAt_6 rfl (lv_at hl 0 rfl) ?_
  refine ms_P (va_runV (As := []) (rest := [iv (d j)]) ⟨hx, hb, hml, hown, hts⟩ (mt_X2_sizesInStock l D cI cS cJ h hd hp d k st md ps (by omega) (by omega)) (cwV 0 hts gX2_salesAt_X2_sizesInStock rfl rfl rfl (by decide +kernel) ⟨Nat.le_of_ble_eq_true rfl, Nat.le_of_ble_eq_true rfl⟩) (pc_V (ci := 2) (q0 := 0) hK (hP.sub (ws' := [(h, ob 2 [.ref hd, .ref hp, iv st, iv md, iv ps]), (hd, ar cI 5 d), (hp, ar cI 3 k)]) [0, 1, 2] rfl) rfl rfl (pcP_S hE hK (hP.sub (ws' := [(h, ob 2 [.ref hd, .ref hp, iv st, iv md, iv ps]), (hd, ar cI 5 d), (hp, ar cI 3 k)]) [0, 1, 2] rfl))) rfl rfl hl.1 rfl (lv_room (Nat.le_of_ble_eq_true rfl)) dX2_salesAt_7 ⟨Nat.le_of_ble_eq_true rfl, Nat.le_of_ble_eq_true rfl⟩) ?_
  refine i_imul hx hb dX2_salesAt_10 ?_
  refine lv_iconst (v := zI 3) hx hb dX2_salesAt_11 rfl ?_
  refine i_idiv hx hb (by omega) (by omega) (by decide) (by decide) dX2_salesAt_12 ?_
  refine lv_aload_n hx hb dX2_salesAt_13 rfl (lv_at hl 0 rfl) ?_
  refine ms_P (va_runV (As := []) (rest := [iv (((d j) * (szs k)) / 3)]) ⟨hx, hb, hml, hown, hts⟩ (mt_X2_wholeStock l D cI cS cJ h hd hp d k st md ps) (cwV 0 hts gX2_salesAt_X2_wholeStock rfl rfl rfl (by decide +kernel) ⟨Nat.le_of_ble_eq_true rfl, Nat.le_of_ble_eq_true rfl⟩) (pc_V (ci := 2) (q0 := 0) hK (hP.sub (ws' := [(h, ob 2 [.ref hd, .ref hp, iv st, iv md, iv ps]), (hd, ar cI 5 d), (hp, ar cI 3 k)]) [0, 1, 2] rfl) rfl rfl (pcP_S hE hK (hP.sub (ws' := [(h, ob 2 [.ref hd, .ref hp, iv st, iv md, iv ps]), (hd, ar cI 5 d), (hp, ar cI 3 k)]) [0, 1, 2] rfl))) rfl rfl hl.1 rfl (lv_room (Nat.le_of_ble_eq_true rfl)) dX2_salesAt_14 ⟨Nat.le_of_ble_eq_true rfl, Nat.le_of_ble_eq_true rfl⟩) ?_
  refine i_min hx hb (hml.trans hl.1.symm) hown w1 w2 w3 w4 ⟨Nat.le_of_ble_eq_true rfl, Nat.le_of_ble_eq_true rfl, Nat.le_of_ble_eq_true rfl, Nat.le_of_ble_eq_true rfl⟩ (Nat.le_of_ble_eq_true rfl) ⟨by omega, by omega⟩ ⟨by omega, by omega⟩ dX2_salesAt_17 ?_
  subst hQ
  exact r_P hx hb hr hlocks (by rfl) dX2_salesAt_20 (rfl)

abbrev rm_X2_sellForAWeek : Room := { frames := 2, cells := 0, slots := 0, locals := 43 }
set_option maxHeartbeats 4000000 in
set_option maxRecDepth 100000 in
/-- a week is run for a store -/
theorem mt_X2_sellForAWeek (l : Launch) (D : va_G) (cI cS cJ : ClassId) (h : Nat) (hd : Nat) (hp : Nat) (d : Int → Int) (k : Int → Int) (st : Int) (md : Int) (ps : Int) (hk : Nn3 k) (hw : whl k ≤ 60) (hst5 : 0 ≤ st ∧ st < 5) (hdst : 0 ≤ d (st) ∧ d (st) ≤ 30) : cM l yX2_sellForAWeek wsX2_sellForAWeek rm_X2_sellForAWeek [.ref h] D (tyL cI cS cJ) [(h, ob 2 [.ref hd, .ref hp, iv st, iv md, iv ps]), (hd, ar cI 5 d), (hp, ar cI 3 k)] (fun r_ w_ => r_ = some (iv (slv (d (st)) k)) ∧ w_ = [(h, ob 2 [.ref hd, .ref hp, iv st, iv md, iv (ps + slv (d (st)) k)]), (hd, ar cI 5 d), (hp, ar cI 3 (decn k (slv (d (st)) k).toNat))]) 0 0 := by
  refine en_M (cc := cX2_sellForAWeek) (maxL := 3) (ret := (some .int)) (by decide) rfl (Nat.le_of_ble_eq_true rfl) ?_
  intro p e s m args below meth c ls A hX hE hP hK hD hS hA hl Q hQ
  obtain ⟨hx, hb, hr, hml, hts, hown, hlocks, hnm⟩ := hX
  have hown : s.vm.findClass RX2 = some m.cls := hown
  have hl : lv_has ls 3 [(0, .ref h)] := hl
  have inX2 : ∀ w ∈ u_ws RX2 TX2 5, w ∈ wsX2_sellForAWeek := by decide +kernel
  have w0 : (Cond.fieldLink RX2 22 RX2 "step" "I").before args s = true := hts _ (by decide +kernel)
  have w1 : (Cond.fieldLink RX2 25 RX2 "piecesSold" "I").before args s = true := hts _ (by decide +kernel)
  have w2 : (Cond.fieldLink RX2 15 RX2 "pieces" "[I").before args s = true := hts _ (by decide +kernel)
  have hw60 := hw
  refine lv_aload_n hx hb dX2_sellForAWeek_0 rfl (lv_at hl 0 rfl) ?_
  refine lv_aload_n hx hb dX2_sellForAWeek_1 rfl (lv_at hl 0 rfl) ?_
  refine va_get (D := D) (ci := 2) (v := iv st) (C := RX2) (T := TX2) (N := 5) hx hb hts inX2 hown hK hP 0 rfl rfl 2 (by decide) w0 (fun _ h9 => h9) rfl dX2_sellForAWeek_2 ?_
  refine ms_P (va_runV (As := [iv st]) (rest := []) ⟨hx, hb, hml, hown, hts⟩ (mt_X2_salesAt l D cI cS cJ h hd hp d k st md ps st (hk) (hw) (hst5) (hdst)) (cwV 1 hts gX2_sellForAWeek_X2_salesAt rfl rfl rfl (by decide +kernel) ⟨Nat.le_of_ble_eq_true rfl, Nat.le_of_ble_eq_true rfl⟩) (pc_V (ci := 2) (q0 := 0) hK (hP.sub (ws' := [(h, ob 2 [.ref hd, .ref hp, iv st, iv md, iv ps]), (hd, ar cI 5 d), (hp, ar cI 3 k)]) [0, 1, 2] rfl) rfl rfl (pcP_S hE hK (hP.sub (ws' := [(h, ob 2 [.ref hd, .ref hp, iv st, iv md, iv ps]), (hd, ar cI 5 d), (hp, ar cI 3 k)]) [0, 1, 2] rfl))) rfl rfl hl.1 rfl (lv_room (Nat.le_of_ble_eq_true rfl)) dX2_sellForAWeek_5 ⟨Nat.le_of_ble_eq_true rfl, Nat.le_of_ble_eq_true rfl⟩) ?_
  refine i_name (fun sl hsl => ?_)
  have hsb : 0 ≤ sl ∧ sl ≤ whl k := by rw [hsl]; exact slv_in hdst.1 hk
  refine lv_istore_n (lv' := [(1, iv sl), (0, .ref h)]) hx hb dX2_sellForAWeek_8 rfl hl (by decide) rfl (fun ls hl => ?_)
  refine lv_iconst (v := zI 0) hx hb dX2_sellForAWeek_9 rfl ?_
  refine lv_istore_n (lv' := [(2, iv 0), (1, iv sl), (0, .ref h)]) hx hb dX2_sellForAWeek_10 rfl hl (by decide) rfl (fun ls hl => ?_)
  have J_11 : ∀ (n_11 : Nat) (n : Nat) (hn : (n : Int) ≤ sl) (hm_11 : ((sl - n).toNat) < n_11) (H : Heap) (locs : List Loc) (hP : va_P D vwCl [(h, ob 2 [.ref hd, .ref hp, iv st, iv md, iv ps]), (hd, ar cI 5 d), (hp, ar cI 3 (decn k n))] H) (hD : va_D A [(h, ob 2 [.ref hd, .ref hp, iv st, iv md, iv ps]), (hd, ar cI 5 d), (hp, ar cI 3 (decn k n))]) (hS : va_S A s.heap H locs) (ls : Array Slot) (hl : lv_has ls 3 [(0, .ref h), (1, iv sl), (2, iv (n : Int))]), W p l e rm_X2_sellForAWeek s m args below meth c H locs 0 0 Q (F0 m 11 ls []) := by
    intro n_11
    induction n_11 with
    | zero => intro n hn hm_11 H locs hP hD hS ls hl; exact absurd hm_11 (Nat.not_lt_zero _)
    | succ n_11 ih_11 =>
      intro n hn hm_11 H locs hP hD hS ls hl
      refine lv_iload_n hx hb dX2_sellForAWeek_11 rfl (lv_at hl 2 rfl) ?_
      refine lv_iload_n hx hb dX2_sellForAWeek_12 rfl (lv_at hl 1 rfl) ?_
      refine i_icmp_ge (tgt := 35) hx hb ⟨by omega, by omega⟩ ⟨by omega, by omega⟩ dX2_sellForAWeek_13 (by decide) (fun c_1 => ?_) (fun c_1 => ?_)
      · skip
        have hen : n = sl.toNat := by omega
        refine lv_aload_n hx hb dX2_sellForAWeek_35 rfl (lv_at hl 0 rfl) ?_
        refine lv_dup hx hb dX2_sellForAWeek_36 rfl ?_
        refine va_get (D := D) (ci := 2) (v := iv ps) (C := RX2) (T := TX2) (N := 5) hx hb hts inX2 hown hK hP 0 rfl rfl 4 (by decide) w1 (fun _ h9 => h9) rfl dX2_sellForAWeek_37 ?_
        refine lv_iload_n hx hb dX2_sellForAWeek_40 rfl (lv_at hl 1 rfl) ?_
        refine i_iadd hx hb dX2_sellForAWeek_41 ?_
        refine va_put (D := D) (ci := 2) (v := iv (ps + sl)) (ty := .int) (C := RX2) (T := TX2) (N := 5) hx hb hts inX2 tyX2 tyX2_ok nmX2 hown hK hP hD hS 0 rfl rfl 4 (by decide) w1 (fun _ h9 => h9) rfl (by decide +kernel) rfl rfl (Nat.le_of_ble_eq_true rfl) dX2_sellForAWeek_42 (fun H locs hP hD hS => ?_)
        have hP : va_P D vwCl [(h, ob 2 [.ref hd, .ref hp, iv st, iv md, iv (ps + sl)]), (hd, ar cI 5 d), (hp, ar cI 3 (decn k n))] H := hP
        have hD : va_D A [(h, ob 2 [.ref hd, .ref hp, iv st, iv md, iv (ps + sl)]), (hd, ar cI 5 d), (hp, ar cI 3 (decn k n))] := hD
        refine lv_iload_n hx hb dX2_sellForAWeek_45 rfl (lv_at hl 1 rfl) ?_
        have hW9 : WE D vwCl [(h, ob 2 [.ref hd, .ref hp, iv st, iv md, iv (ps + sl)]), (hd, ar cI 5 d), (hp, ar cI 3 (decn k n))] [(h, ob 2 [.ref hd, .ref hp, iv st, iv md, iv (ps + slv (d (st)) k)]), (hd, ar cI 5 d), (hp, ar cI 3 (decn k (slv (d (st)) k).toNat))] := ⟨ce_of (by rw [hsl]), ⟨ce_rf, ⟨ce_of (by rw [← hsl, hen]), trivial⟩⟩⟩
        refine i_eqz (y := slv (d (st)) k) (by rw [hsl]) ?_
        subst hQ
        exact r_Mi hx hb hr hlocks (by first | rfl | decide) dX2_sellForAWeek_46 hS (hW9.P (hP.sub (ws' := [(h, ob 2 [.ref hd, .ref hp, iv st, iv md, iv (ps + sl)]), (hd, ar cI 5 d), (hp, ar cI 3 (decn k n))]) [0, 1, 2] rfl)) (hW9.D (hD.sub (ws' := [(h, ob 2 [.ref hd, .ref hp, iv st, iv md, iv (ps + sl)]), (hd, ar cI 5 d), (hp, ar cI 3 (decn k n))]) [0, 1, 2] (by decide) rfl)) (⟨rfl, rfl⟩) (Nat.le_of_ble_eq_true rfl) (Nat.le_of_ble_eq_true rfl)
      · skip
        have hwn := whl_decn k n
        have hkn : Nn3 (decn k n) := decn_nn hk n (by omega)
        have hwb : whl (decn k n) ≤ 60 := by omega
        obtain ⟨hf0, hf2⟩ := fst_in (decn k n)
        refine lv_aload_n hx hb dX2_sellForAWeek_16 rfl (lv_at hl 0 rfl) ?_
        refine va_get (D := D) (ci := 2) (v := .ref hp) (C := RX2) (T := TX2) (N := 5) hx hb hts inX2 hown hK hP 0 rfl rfl 1 (by decide) w2 (fun _ h9 => h9) rfl dX2_sellForAWeek_17 ?_
        refine lv_aload_n hx hb dX2_sellForAWeek_20 rfl (lv_at hl 0 rfl) ?_
        refine ms_P (va_runV (As := []) (rest := [.ref hp]) ⟨hx, hb, hml, hown, hts⟩ (mt_X2_fullestSize l D cI cS cJ h hd hp d (decn k n) st md ps (hkn) (hwb)) (cwV 0 hts gX2_sellForAWeek_X2_fullestSize rfl rfl rfl (by decide +kernel) ⟨Nat.le_of_ble_eq_true rfl, Nat.le_of_ble_eq_true rfl⟩) (pc_V (ci := 2) (q0 := 0) hK (hP.sub (ws' := [(h, ob 2 [.ref hd, .ref hp, iv st, iv md, iv ps]), (hd, ar cI 5 d), (hp, ar cI 3 (decn k n))]) [0, 1, 2] rfl) rfl rfl (pcP_S hE hK (hP.sub (ws' := [(h, ob 2 [.ref hd, .ref hp, iv st, iv md, iv ps]), (hd, ar cI 5 d), (hp, ar cI 3 (decn k n))]) [0, 1, 2] rfl))) rfl rfl hl.1 rfl (lv_room (Nat.le_of_ble_eq_true rfl)) dX2_sellForAWeek_21 ⟨Nat.le_of_ble_eq_true rfl, Nat.le_of_ble_eq_true rfl⟩) ?_
        refine lv_dup2_11 hx hb dX2_sellForAWeek_24 rfl rfl ?_
        refine i_iald hx hb hK hP 2 0 rfl rfl (by omega) (by omega) (by decide) dX2_sellForAWeek_25 ?_
        refine lv_iconst (v := zI 1) hx hb dX2_sellForAWeek_26 rfl ?_
        refine i_isub hx hb dX2_sellForAWeek_27 ?_
        refine i_iast hx hb hK hP hD hS 2 0 rfl rfl (by omega) (by omega) (by decide) dX2_sellForAWeek_28 (fun H locs hP hD hS => ?_)
        have hP : va_P D vwCl [(h, ob 2 [.ref hd, .ref hp, iv st, iv md, iv ps]), (hd, ar cI 5 d), (hp, ar cI 3 (ui (decn k n) (fst (decn k n)) ((decn k n (fst (decn k n))) - 1)))] H := hP
        have hD : va_D A [(h, ob 2 [.ref hd, .ref hp, iv st, iv md, iv ps]), (hd, ar cI 5 d), (hp, ar cI 3 (ui (decn k n) (fst (decn k n)) ((decn k n (fst (decn k n))) - 1)))] := hD
        refine i_iinc (n := 1) (lv' := [(2, iv ((n : Int) + 1)), (0, .ref h), (1, iv sl)]) hx hb dX2_sellForAWeek_29 hl (k := 2) rfl (by decide) rfl (fun ls hl => ?_)
        refine lv_goto (tgt := 11) hx hb dX2_sellForAWeek_32 (by decide) ?_
        exact ih_11 (n + 1) (by omega) (by omega) _ _ (hP.sub [0, 1, 2] rfl) (hD.sub [0, 1, 2] (by decide) rfl) hS ls (lv_sub hl [1, 2, 0] rfl)
  exact J_11 _ 0 (by omega) (Nat.lt_succ_self _) _ _ (hP.sub [0, 1, 2] rfl) (hD.sub [0, 1, 2] (by decide) rfl) hS ls (lv_sub hl [2, 1, 0] rfl)
end
section
/-- a price fits the ladder -/
def kld (p : Int → Int) (j v : Int) : Prop := (j ≤ 0 ∨ v ≤ p (j - 1)) ∧ (4 ≤ j ∨ p (j + 1) ≤ v)

abbrev rm_X1_init : Room := { frames := 1, cells := 1, slots := 5, locals := 20 }
set_option maxHeartbeats 4000000 in
set_option maxRecDepth 100000 in
/-- a new season -/
theorem mt_X1_init (l : Launch) (D : va_G) (cI cS cJ : ClassId) (sa : Nat)  : cM l yX1_init wsX1_init rm_X1_init [.ref sa] D (tyL cI cS cJ) [(sa, ob 1 [.null, iv 0, iv 0, iv 0, iv 0, iv 0, iv 0])] (fun r_ w_ => ∃ sp : Nat, r_ = none ∧ w_ = [(sa, ob 1 [.ref sp, iv 8, iv 0, iv 2, iv 0, iv 0, iv 0]), (sp, ar cI 5 ((fun _ => 100)))]) 1 5 := by
  refine en_M (cc := cX1_init) (maxL := 2) (ret := none) (by decide) rfl (Nat.le_of_ble_eq_true rfl) ?_
  intro p e s m args below meth c ls A hX hE hP hK hD hS hA hl Q hQ
  obtain ⟨hx, hb, hr, hml, hts, hown, hlocks, hnm⟩ := hX
  have hown : s.vm.findClass RX1 = some m.cls := hown
  have hl : lv_has ls 2 [(0, .ref sa)] := hl
  have inX1 : ∀ w ∈ u_ws RX1 TX1 7, w ∈ wsX1_init := by decide +kernel
  have w0 : (Cond.methodLink RX1 3 objectInit).before args s = true := hts _ (by decide +kernel)
  have w1 : (Cond.instanceMethod objectInit).before args s = true := hts _ (by decide +kernel)
  have w2 : (Cond.code objectInit ⟨#[0xb1]⟩ 1 none).before args s = true := hts _ (by decide +kernel)
  have w3 : (Cond.arrayClass .int).before args s = true := hts _ (by decide +kernel)
  have w4 : (Cond.fieldLink RX1 9 RX1 "prices" "[I").before args s = true := hts _ (by decide +kernel)
  have w5 : (Cond.fieldLink RX1 15 RX1 "weeks" "I").before args s = true := hts _ (by decide +kernel)
  have w6 : (Cond.fieldLink RX1 19 RX1 "gap" "I").before args s = true := hts _ (by decide +kernel)
  refine lv_aload_n hx hb dX1_init_0 rfl (lv_at hl 0 rfl) ?_
  refine W.objInit hx hb hown w0 w1 w2 rfl (by rw [hml]; exact hl.1) rfl dX1_init_1 (Nat.le_of_ble_eq_true rfl) (Nat.le_of_ble_eq_true rfl) ?_
  refine W.eq (g2 := F0 m 4 ls []) rfl ?_
  refine lv_aload_n hx hb dX1_init_4 rfl (lv_at hl 0 rfl) ?_
  refine lv_iconst (v := zI 5) hx hb dX1_init_5 rfl ?_
  refine i_newa (n := 5) (N := 5) hx hb w3 hK hP hD hS hA rfl (Nat.le_of_ble_eq_true rfl) (Nat.le_of_ble_eq_true rfl) (Nat.le_of_ble_eq_true rfl) dX1_init_6 (fun q_1 H hP hD hS => ?_)
  have hP : va_P D vwCl [(sa, ob 1 [.null, iv 0, iv 0, iv 0, iv 0, iv 0, iv 0]), (q_1, ar cI 5 ((fun _ => 0)))] H := hP
  have hD : va_D A [(sa, ob 1 [.null, iv 0, iv 0, iv 0, iv 0, iv 0, iv 0]), (q_1, ar cI 5 ((fun _ => 0)))] := hD
  refine va_putF (D := D) (ci := 1) (v := .ref q_1) (ty := (.array .int)) (C := RX1) (T := TX1) (N := 7) hx hb hts inX1 tyX1 tyX1_ok nmX1 hown hK hP hD hS 0 rfl rfl 0 (by decide) w4 (fun _ h9 => h9) rfl hnm rfl (by decide +kernel) rfl rfl (Nat.le_of_ble_eq_true rfl) dX1_init_8 (fun H locs hP hD hS => ?_)
  have hP : va_P D vwCl [(sa, ob 1 [.ref q_1, iv 0, iv 0, iv 0, iv 0, iv 0, iv 0]), (q_1, ar cI 5 ((fun _ => 0)))] H := hP
  have hD : va_D A [(sa, ob 1 [.ref q_1, iv 0, iv 0, iv 0, iv 0, iv 0, iv 0]), (q_1, ar cI 5 ((fun _ => 0)))] := hD
  refine lv_aload_n hx hb dX1_init_11 rfl (lv_at hl 0 rfl) ?_
  refine lv_bipush (v := zI 8) hx hb dX1_init_12 (by decide) ?_
  refine va_put (D := D) (ci := 1) (v := iv 8) (ty := .int) (C := RX1) (T := TX1) (N := 7) hx hb hts inX1 tyX1 tyX1_ok nmX1 hown hK hP hD hS 0 rfl rfl 1 (by decide) w5 (fun _ h9 => h9) rfl (by decide +kernel) rfl rfl (Nat.le_of_ble_eq_true rfl) dX1_init_14 (fun H locs hP hD hS => ?_)
  have hP : va_P D vwCl [(sa, ob 1 [.ref q_1, iv 8, iv 0, iv 0, iv 0, iv 0, iv 0]), (q_1, ar cI 5 ((fun _ => 0)))] H := hP
  have hD : va_D A [(sa, ob 1 [.ref q_1, iv 8, iv 0, iv 0, iv 0, iv 0, iv 0]), (q_1, ar cI 5 ((fun _ => 0)))] := hD
  refine lv_aload_n hx hb dX1_init_17 rfl (lv_at hl 0 rfl) ?_
  refine lv_iconst (v := zI 2) hx hb dX1_init_18 rfl ?_
  refine va_put (D := D) (ci := 1) (v := iv 2) (ty := .int) (C := RX1) (T := TX1) (N := 7) hx hb hts inX1 tyX1 tyX1_ok nmX1 hown hK hP hD hS 0 rfl rfl 3 (by decide) w6 (fun _ h9 => h9) rfl (by decide +kernel) rfl rfl (Nat.le_of_ble_eq_true rfl) dX1_init_19 (fun H locs hP hD hS => ?_)
  have hP : va_P D vwCl [(sa, ob 1 [.ref q_1, iv 8, iv 0, iv 2, iv 0, iv 0, iv 0]), (q_1, ar cI 5 ((fun _ => 0)))] H := hP
  have hD : va_D A [(sa, ob 1 [.ref q_1, iv 8, iv 0, iv 2, iv 0, iv 0, iv 0]), (q_1, ar cI 5 ((fun _ => 0)))] := hD
  refine lv_iconst (v := zI 0) hx hb dX1_init_22 rfl ?_
  refine lv_istore_n (lv' := [(1, iv 0), (0, .ref sa)]) hx hb dX1_init_23 rfl hl (by decide) rfl (fun ls hl => ?_)
  refine lv_iload_n hx hb dX1_init_24 rfl (lv_at hl 0 rfl) ?_
  refine lv_iconst (v := zI 5) hx hb dX1_init_25 rfl ?_
  refine i_icmp_ge (tgt := 43) hx hb ⟨by decide, by decide⟩ ⟨by decide, by decide⟩ dX1_init_26 (by decide) (fun c_2 => absurd c_2 (by decide)) (fun c_2 => ?_)
  refine lv_aload_n hx hb dX1_init_29 rfl (lv_at hl 1 rfl) ?_
  refine va_get (D := D) (ci := 1) (v := .ref q_1) (C := RX1) (T := TX1) (N := 7) hx hb hts inX1 hown hK hP 0 rfl rfl 0 (by decide) w4 (fun _ h9 => h9) rfl dX1_init_30 ?_
  refine lv_iload_n hx hb dX1_init_33 rfl (lv_at hl 0 rfl) ?_
  refine lv_bipush (v := zI 100) hx hb dX1_init_34 (by decide) ?_
  refine i_iast hx hb hK hP hD hS 1 0 rfl rfl (by decide) (by decide) (by decide) dX1_init_36 (fun H locs hP hD hS => ?_)
  have hP : va_P D vwCl [(sa, ob 1 [.ref q_1, iv 8, iv 0, iv 2, iv 0, iv 0, iv 0]), (q_1, ar cI 5 (ui ((fun _ => 0)) 0 100))] H := hP
  have hD : va_D A [(sa, ob 1 [.ref q_1, iv 8, iv 0, iv 2, iv 0, iv 0, iv 0]), (q_1, ar cI 5 (ui ((fun _ => 0)) 0 100))] := hD
  refine i_iinc (n := 1) (lv' := [(1, iv 1), (0, .ref sa)]) hx hb dX1_init_37 hl (k := 0) rfl (by decide) rfl (fun ls hl => ?_)
  refine lv_goto (tgt := 24) hx hb dX1_init_40 (by decide) ?_
  refine lv_iload_n hx hb dX1_init_24 rfl (lv_at hl 0 rfl) ?_
  refine lv_iconst (v := zI 5) hx hb dX1_init_25 rfl ?_
  refine i_icmp_ge (tgt := 43) hx hb ⟨by decide, by decide⟩ ⟨by decide, by decide⟩ dX1_init_26 (by decide) (fun c_3 => absurd c_3 (by decide)) (fun c_3 => ?_)
  refine lv_aload_n hx hb dX1_init_29 rfl (lv_at hl 1 rfl) ?_
  refine va_get (D := D) (ci := 1) (v := .ref q_1) (C := RX1) (T := TX1) (N := 7) hx hb hts inX1 hown hK hP 0 rfl rfl 0 (by decide) w4 (fun _ h9 => h9) rfl dX1_init_30 ?_
  refine lv_iload_n hx hb dX1_init_33 rfl (lv_at hl 0 rfl) ?_
  refine lv_bipush (v := zI 100) hx hb dX1_init_34 (by decide) ?_
  refine i_iast hx hb hK hP hD hS 1 0 rfl rfl (by decide) (by decide) (by decide) dX1_init_36 (fun H locs hP hD hS => ?_)
  have hP : va_P D vwCl [(sa, ob 1 [.ref q_1, iv 8, iv 0, iv 2, iv 0, iv 0, iv 0]), (q_1, ar cI 5 (ui (ui ((fun _ => 0)) 0 100) 1 100))] H := hP
  have hD : va_D A [(sa, ob 1 [.ref q_1, iv 8, iv 0, iv 2, iv 0, iv 0, iv 0]), (q_1, ar cI 5 (ui (ui ((fun _ => 0)) 0 100) 1 100))] := hD
  refine i_iinc (n := 1) (lv' := [(1, iv 2), (0, .ref sa)]) hx hb dX1_init_37 hl (k := 0) rfl (by decide) rfl (fun ls hl => ?_)
  refine lv_goto (tgt := 24) hx hb dX1_init_40 (by decide) ?_
  refine lv_iload_n hx hb dX1_init_24 rfl (lv_at hl 0 rfl) ?_
  refine lv_iconst (v := zI 5) hx hb dX1_init_25 rfl ?_
  refine i_icmp_ge (tgt := 43) hx hb ⟨by decide, by decide⟩ ⟨by decide, by decide⟩ dX1_init_26 (by decide) (fun c_4 => absurd c_4 (by decide)) (fun c_4 => ?_)
  refine lv_aload_n hx hb dX1_init_29 rfl (lv_at hl 1 rfl) ?_
  refine va_get (D := D) (ci := 1) (v := .ref q_1) (C := RX1) (T := TX1) (N := 7) hx hb hts inX1 hown hK hP 0 rfl rfl 0 (by decide) w4 (fun _ h9 => h9) rfl dX1_init_30 ?_
  refine lv_iload_n hx hb dX1_init_33 rfl (lv_at hl 0 rfl) ?_
  refine lv_bipush (v := zI 100) hx hb dX1_init_34 (by decide) ?_
  refine i_iast hx hb hK hP hD hS 1 0 rfl rfl (by decide) (by decide) (by decide) dX1_init_36 (fun H locs hP hD hS => ?_)
  have hP : va_P D vwCl [(sa, ob 1 [.ref q_1, iv 8, iv 0, iv 2, iv 0, iv 0, iv 0]), (q_1, ar cI 5 (ui (ui (ui ((fun _ => 0)) 0 100) 1 100) 2 100))] H := hP
  have hD : va_D A [(sa, ob 1 [.ref q_1, iv 8, iv 0, iv 2, iv 0, iv 0, iv 0]), (q_1, ar cI 5 (ui (ui (ui ((fun _ => 0)) 0 100) 1 100) 2 100))] := hD
  refine i_iinc (n := 1) (lv' := [(1, iv 3), (0, .ref sa)]) hx hb dX1_init_37 hl (k := 0) rfl (by decide) rfl (fun ls hl => ?_)
  refine lv_goto (tgt := 24) hx hb dX1_init_40 (by decide) ?_
  refine lv_iload_n hx hb dX1_init_24 rfl (lv_at hl 0 rfl) ?_
  refine lv_iconst (v := zI 5) hx hb dX1_init_25 rfl ?_
  refine i_icmp_ge (tgt := 43) hx hb ⟨by decide, by decide⟩ ⟨by decide, by decide⟩ dX1_init_26 (by decide) (fun c_5 => absurd c_5 (by decide)) (fun c_5 => ?_)
  refine lv_aload_n hx hb dX1_init_29 rfl (lv_at hl 1 rfl) ?_
  refine va_get (D := D) (ci := 1) (v := .ref q_1) (C := RX1) (T := TX1) (N := 7) hx hb hts inX1 hown hK hP 0 rfl rfl 0 (by decide) w4 (fun _ h9 => h9) rfl dX1_init_30 ?_
  refine lv_iload_n hx hb dX1_init_33 rfl (lv_at hl 0 rfl) ?_
  refine lv_bipush (v := zI 100) hx hb dX1_init_34 (by decide) ?_
  refine i_iast hx hb hK hP hD hS 1 0 rfl rfl (by decide) (by decide) (by decide) dX1_init_36 (fun H locs hP hD hS => ?_)
  have hP : va_P D vwCl [(sa, ob 1 [.ref q_1, iv 8, iv 0, iv 2, iv 0, iv 0, iv 0]), (q_1, ar cI 5 (ui (ui (ui (ui ((fun _ => 0)) 0 100) 1 100) 2 100) 3 100))] H := hP
  have hD : va_D A [(sa, ob 1 [.ref q_1, iv 8, iv 0, iv 2, iv 0, iv 0, iv 0]), (q_1, ar cI 5 (ui (ui (ui (ui ((fun _ => 0)) 0 100) 1 100) 2 100) 3 100))] := hD
  refine i_iinc (n := 1) (lv' := [(1, iv 4), (0, .ref sa)]) hx hb dX1_init_37 hl (k := 0) rfl (by decide) rfl (fun ls hl => ?_)
  refine lv_goto (tgt := 24) hx hb dX1_init_40 (by decide) ?_
  refine lv_iload_n hx hb dX1_init_24 rfl (lv_at hl 0 rfl) ?_
  refine lv_iconst (v := zI 5) hx hb dX1_init_25 rfl ?_
  refine i_icmp_ge (tgt := 43) hx hb ⟨by decide, by decide⟩ ⟨by decide, by decide⟩ dX1_init_26 (by decide) (fun c_6 => absurd c_6 (by decide)) (fun c_6 => ?_)
  refine lv_aload_n hx hb dX1_init_29 rfl (lv_at hl 1 rfl) ?_
  refine va_get (D := D) (ci := 1) (v := .ref q_1) (C := RX1) (T := TX1) (N := 7) hx hb hts inX1 hown hK hP 0 rfl rfl 0 (by decide) w4 (fun _ h9 => h9) rfl dX1_init_30 ?_
  refine lv_iload_n hx hb dX1_init_33 rfl (lv_at hl 0 rfl) ?_
  refine lv_bipush (v := zI 100) hx hb dX1_init_34 (by decide) ?_
  refine i_iast hx hb hK hP hD hS 1 0 rfl rfl (by decide) (by decide) (by decide) dX1_init_36 (fun H locs hP hD hS => ?_)
  have hP : va_P D vwCl [(sa, ob 1 [.ref q_1, iv 8, iv 0, iv 2, iv 0, iv 0, iv 0]), (q_1, ar cI 5 (ui (ui (ui (ui (ui ((fun _ => 0)) 0 100) 1 100) 2 100) 3 100) 4 100))] H := hP
  have hD : va_D A [(sa, ob 1 [.ref q_1, iv 8, iv 0, iv 2, iv 0, iv 0, iv 0]), (q_1, ar cI 5 (ui (ui (ui (ui (ui ((fun _ => 0)) 0 100) 1 100) 2 100) 3 100) 4 100))] := hD
  refine i_iinc (n := 1) (lv' := [(1, iv 5), (0, .ref sa)]) hx hb dX1_init_37 hl (k := 0) rfl (by decide) rfl (fun ls hl => ?_)
  refine lv_goto (tgt := 24) hx hb dX1_init_40 (by decide) ?_
  refine lv_iload_n hx hb dX1_init_24 rfl (lv_at hl 0 rfl) ?_
  refine lv_iconst (v := zI 5) hx hb dX1_init_25 rfl ?_
  refine i_icmp_ge (tgt := 43) hx hb ⟨by decide, by decide⟩ ⟨by decide, by decide⟩ dX1_init_26 (by decide) (fun c_7 => ?_) (fun c_7 => absurd (by decide) c_7)
  have hW9 : WE D vwCl [(sa, ob 1 [.ref q_1, iv 8, iv 0, iv 2, iv 0, iv 0, iv 0]), (q_1, ar cI 5 (ui (ui (ui (ui (ui ((fun _ => 0)) 0 100) 1 100) 2 100) 3 100) 4 100))] [(sa, ob 1 [.ref q_1, iv 8, iv 0, iv 2, iv 0, iv 0, iv 0]), (q_1, ar cI 5 ((fun _ => 100)))] := ⟨ce_rf, ⟨ce_ar (fun j h0 h1 => by rcases (show j = 0 ∨ j = 1 ∨ j = 2 ∨ j = 3 ∨ j = 4 by omega) with rfl | rfl | rfl | rfl | rfl <;> rfl), trivial⟩⟩
  subst hQ
  exact r_Mv hx hb hr hlocks dX1_init_43 hS (hW9.P (hP.sub (ws' := [(sa, ob 1 [.ref q_1, iv 8, iv 0, iv 2, iv 0, iv 0, iv 0]), (q_1, ar cI 5 (ui (ui (ui (ui (ui ((fun _ => 0)) 0 100) 1 100) 2 100) 3 100) 4 100))]) [0, 1] rfl)) (hW9.D (hD.sub (ws' := [(sa, ob 1 [.ref q_1, iv 8, iv 0, iv 2, iv 0, iv 0, iv 0]), (q_1, ar cI 5 (ui (ui (ui (ui (ui ((fun _ => 0)) 0 100) 1 100) 2 100) 3 100) 4 100))]) [0, 1] (by decide) rfl)) (⟨q_1, rfl, rfl⟩) (Nat.le_of_ble_eq_true rfl) (Nat.le_of_ble_eq_true rfl)

abbrev rm_X1_startAnew : Room := { frames := 0, cells := 0, slots := 0, locals := 0 }
set_option maxHeartbeats 4000000 in
set_option maxRecDepth 100000 in
/-- a season begins -/
theorem mt_X1_startAnew (l : Launch) (D : va_G) (cI cS cJ : ClassId) (sa : Nat) (sp : Nat) (pr : Int → Int) (wks : Int) (wk : Int) (gp : Int) (rm : Int) (mv : Int) (tk : Int) (nw : Int)  : cM l yX1_startAnew wsX1_startAnew rm_X1_startAnew [.ref sa, iv nw] D (tyL cI cS cJ) [(sa, ob 1 [.ref sp, iv wks, iv wk, iv gp, iv rm, iv mv, iv tk]), (sp, ar cI 5 pr)] (fun r_ w_ => r_ = none ∧ w_ = [(sa, ob 1 [.ref sp, iv nw, iv 0, iv gp, iv rm, iv mv, iv 0]), (sp, ar cI 5 pr)]) 0 0 := by
  refine en_M (cc := cX1_startAnew) (maxL := 2) (ret := none) (by decide) rfl (Nat.le_of_ble_eq_true rfl) ?_
  intro p e s m args below meth c ls A hX hE hP hK hD hS hA hl Q hQ
  obtain ⟨hx, hb, hr, hml, hts, hown, hlocks, hnm⟩ := hX
  have hown : s.vm.findClass RX1 = some m.cls := hown
  have hl : lv_has ls 2 [(0, .ref sa), (1, iv nw)] := hl
  have inX1 : ∀ w ∈ u_ws RX1 TX1 7, w ∈ wsX1_startAnew := by decide +kernel
  have w0 : (Cond.fieldLink RX1 15 RX1 "weeks" "I").before args s = true := hts _ (by decide +kernel)
  have w1 : (Cond.fieldLink RX1 22 RX1 "week" "I").before args s = true := hts _ (by decide +kernel)
  have w2 : (Cond.fieldLink RX1 25 RX1 "taken" "I").before args s = true := hts _ (by decide +kernel)
  refine lv_aload_n hx hb dX1_startAnew_0 rfl (lv_at hl 0 rfl) ?_
  refine lv_iload_n hx hb dX1_startAnew_1 rfl (lv_at hl 1 rfl) ?_
  refine va_put (D := D) (ci := 1) (v := iv nw) (ty := .int) (C := RX1) (T := TX1) (N := 7) hx hb hts inX1 tyX1 tyX1_ok nmX1 hown hK hP hD hS 0 rfl rfl 1 (by decide) w0 (fun _ h9 => h9) rfl (by decide +kernel) rfl rfl (Nat.le_of_ble_eq_true rfl) dX1_startAnew_2 (fun H locs hP hD hS => ?_)
  have hP : va_P D vwCl [(sa, ob 1 [.ref sp, iv nw, iv wk, iv gp, iv rm, iv mv, iv tk]), (sp, ar cI 5 pr)] H := hP
  have hD : va_D A [(sa, ob 1 [.ref sp, iv nw, iv wk, iv gp, iv rm, iv mv, iv tk]), (sp, ar cI 5 pr)] := hD
  refine lv_aload_n hx hb dX1_startAnew_5 rfl (lv_at hl 0 rfl) ?_
  refine lv_iconst (v := zI 0) hx hb dX1_startAnew_6 rfl ?_
  refine va_put (D := D) (ci := 1) (v := iv 0) (ty := .int) (C := RX1) (T := TX1) (N := 7) hx hb hts inX1 tyX1 tyX1_ok nmX1 hown hK hP hD hS 0 rfl rfl 2 (by decide) w1 (fun _ h9 => h9) rfl (by decide +kernel) rfl rfl (Nat.le_of_ble_eq_true rfl) dX1_startAnew_7 (fun H locs hP hD hS => ?_)
  have hP : va_P D vwCl [(sa, ob 1 [.ref sp, iv nw, iv 0, iv gp, iv rm, iv mv, iv tk]), (sp, ar cI 5 pr)] H := hP
  have hD : va_D A [(sa, ob 1 [.ref sp, iv nw, iv 0, iv gp, iv rm, iv mv, iv tk]), (sp, ar cI 5 pr)] := hD
  refine lv_aload_n hx hb dX1_startAnew_10 rfl (lv_at hl 0 rfl) ?_
  refine lv_iconst (v := zI 0) hx hb dX1_startAnew_11 rfl ?_
  refine va_put (D := D) (ci := 1) (v := iv 0) (ty := .int) (C := RX1) (T := TX1) (N := 7) hx hb hts inX1 tyX1 tyX1_ok nmX1 hown hK hP hD hS 0 rfl rfl 6 (by decide) w2 (fun _ h9 => h9) rfl (by decide +kernel) rfl rfl (Nat.le_of_ble_eq_true rfl) dX1_startAnew_12 (fun H locs hP hD hS => ?_)
  have hP : va_P D vwCl [(sa, ob 1 [.ref sp, iv nw, iv 0, iv gp, iv rm, iv mv, iv 0]), (sp, ar cI 5 pr)] H := hP
  have hD : va_D A [(sa, ob 1 [.ref sp, iv nw, iv 0, iv gp, iv rm, iv mv, iv 0]), (sp, ar cI 5 pr)] := hD
  subst hQ
  exact r_Mv hx hb hr hlocks dX1_startAnew_15 hS (hP.sub (ws' := [(sa, ob 1 [.ref sp, iv nw, iv 0, iv gp, iv rm, iv mv, iv 0]), (sp, ar cI 5 pr)]) [0, 1] rfl) (hD.sub (ws' := [(sa, ob 1 [.ref sp, iv nw, iv 0, iv gp, iv rm, iv mv, iv 0]), (sp, ar cI 5 pr)]) [0, 1] (by decide) rfl) (⟨rfl, rfl⟩) (Nat.le_of_ble_eq_true rfl) (Nat.le_of_ble_eq_true rfl)

abbrev rm_X1_keepsLadderDown : Room := { frames := 0, cells := 0, slots := 0, locals := 0 }
set_option maxHeartbeats 4000000 in
set_option maxRecDepth 100000 in
/-- a price fits between its neighbours -/
theorem mt_X1_keepsLadderDown (l : Launch) (D : va_G) (cI cS cJ : ClassId) (sa : Nat) (sp : Nat) (pr : Int → Int) (wks : Int) (wk : Int) (gp : Int) (rm : Int) (mv : Int) (tk : Int) (j : Int) (v : Int) (hj : 0 ≤ j ∧ j < 5) (hv : 0 ≤ v ∧ v ≤ 1000) (hpp : ∀ i : Int, 0 ≤ i → i < 5 → 0 ≤ pr i ∧ pr i ≤ 1000) : cP l yX1_keepsLadderDown wsX1_keepsLadderDown rm_X1_keepsLadderDown [.ref sa, iv j, iv v] D (tyL cI cS cJ) [(sa, ob 1 [.ref sp, iv wks, iv wk, iv gp, iv rm, iv mv, iv tk]), (sp, ar cI 5 pr)] (zI (if (j ≤ 0 ∨ v ≤ pr (j - 1)) ∧ (4 ≤ j ∨ pr (j + 1) ≤ v) then 1 else 0)) := by
  refine en_P (cc := cX1_keepsLadderDown) (maxL := 5) (ret := (some .boolean)) (by decide) rfl (Nat.le_of_ble_eq_true rfl) ?_
  intro p e s m args below meth c ls hX hE hP hK hl Q hQ
  obtain ⟨hx, hb, hr, hml, hts, hown, hlocks, hnm⟩ := hX
  have hown : s.vm.findClass RX1 = some m.cls := hown
  have hl : lv_has ls 5 [(0, .ref sa), (1, iv j), (2, iv v)] := hl
  have inX1 : ∀ w ∈ u_ws RX1 TX1 7, w ∈ wsX1_keepsLadderDown := by decide +kernel
  have w0 : (Cond.fieldLink RX1 9 RX1 "prices" "[I").before args s = true := hts _ (by decide +kernel)
  refine lv_iload_n hx hb dX1_keepsLadderDown_0 rfl (lv_at hl 1 rfl) ?_
  refine i_if_le (tgt := 16) hx hb ⟨by omega, by omega⟩ dX1_keepsLadderDown_1 (by decide) (fun c_1 => ?_) (fun c_1 => ?_)
  · skip
    refine lv_iconst (v := zI 1) hx hb dX1_keepsLadderDown_16 rfl ?_
    refine lv_goto (tgt := 21) hx hb dX1_keepsLadderDown_17 (by decide) ?_
    refine lv_istore_n (lv' := [(3, iv 1), (0, .ref sa), (1, iv j), (2, iv v)]) hx hb dX1_keepsLadderDown_21 rfl hl (by decide) rfl (fun ls hl => ?_)
    refine lv_iload_n hx hb dX1_keepsLadderDown_22 rfl (lv_at hl 2 rfl) ?_
    refine lv_iconst (v := zI 4) hx hb dX1_keepsLadderDown_23 rfl ?_
    refine i_icmp_ge (tgt := 39) hx hb ⟨by omega, by omega⟩ ⟨by decide, by decide⟩ dX1_keepsLadderDown_24 (by decide) (fun c_2 => ?_) (fun c_2 => ?_)
    · skip
      refine lv_iconst (v := zI 1) hx hb dX1_keepsLadderDown_39 rfl ?_
      refine lv_goto (tgt := 44) hx hb dX1_keepsLadderDown_40 (by decide) ?_
      refine lv_istore (lv' := [(4, iv 1), (3, iv 1), (0, .ref sa), (1, iv j), (2, iv v)]) hx hb dX1_keepsLadderDown_44 hl (by decide) rfl (fun ls hl => ?_)
      refine lv_iload_n hx hb dX1_keepsLadderDown_46 rfl (lv_at hl 1 rfl) ?_
      refine i_if_eq (tgt := 59) hx hb ⟨by decide, by decide⟩ dX1_keepsLadderDown_47 (by decide) (fun c_3 => absurd c_3 (by decide)) (fun c_3 => ?_)
      refine lv_iload hx hb dX1_keepsLadderDown_50 (lv_at hl 0 rfl) ?_
      refine i_if_eq (tgt := 59) hx hb ⟨by decide, by decide⟩ dX1_keepsLadderDown_52 (by decide) (fun c_4 => absurd c_4 (by decide)) (fun c_4 => ?_)
      refine lv_iconst (v := zI 1) hx hb dX1_keepsLadderDown_55 rfl ?_
      refine lv_goto (tgt := 60) hx hb dX1_keepsLadderDown_56 (by decide) ?_
      subst hQ
      exact r_P hx hb hr hlocks (by first | rfl | decide) dX1_keepsLadderDown_60 (by first | exact congrArg zI (if_pos (by omega)).symm | exact congrArg zI (if_neg (by omega)).symm)
    · skip
      refine lv_iload_n hx hb dX1_keepsLadderDown_27 rfl (lv_at hl 3 rfl) ?_
      refine lv_aload_n hx hb dX1_keepsLadderDown_28 rfl (lv_at hl 1 rfl) ?_
      refine va_get (D := D) (ci := 1) (v := .ref sp) (C := RX1) (T := TX1) (N := 7) hx hb hts inX1 hown hK hP 0 rfl rfl 0 (by decide) w0 (fun _ h9 => h9) rfl dX1_keepsLadderDown_29 ?_
      refine lv_iload_n hx hb dX1_keepsLadderDown_32 rfl (lv_at hl 2 rfl) ?_
      refine lv_iconst (v := zI 1) hx hb dX1_keepsLadderDown_33 rfl ?_
      refine i_iadd hx hb dX1_keepsLadderDown_34 ?_
      have q2 := hpp (j + 1) (by omega) (by omega)
      refine i_iald hx hb hK hP 1 0 rfl rfl (by omega) (by omega) (by decide) dX1_keepsLadderDown_35 ?_
      refine i_icmp_lt (tgt := 43) hx hb ⟨by omega, by omega⟩ ⟨by omega, by omega⟩ dX1_keepsLadderDown_36 (by decide) (fun c_5 => ?_) (fun c_5 => ?_)
      · skip
        refine lv_iconst (v := zI 0) hx hb dX1_keepsLadderDown_43 rfl ?_
        refine lv_istore (lv' := [(4, iv 0), (3, iv 1), (0, .ref sa), (1, iv j), (2, iv v)]) hx hb dX1_keepsLadderDown_44 hl (by decide) rfl (fun ls hl => ?_)
        refine lv_iload_n hx hb dX1_keepsLadderDown_46 rfl (lv_at hl 1 rfl) ?_
        refine i_if_eq (tgt := 59) hx hb ⟨by decide, by decide⟩ dX1_keepsLadderDown_47 (by decide) (fun c_6 => absurd c_6 (by decide)) (fun c_6 => ?_)
        refine lv_iload hx hb dX1_keepsLadderDown_50 (lv_at hl 0 rfl) ?_
        refine i_if_eq (tgt := 59) hx hb ⟨by decide, by decide⟩ dX1_keepsLadderDown_52 (by decide) (fun c_7 => ?_) (fun c_7 => absurd (by decide) c_7)
        refine lv_iconst (v := zI 0) hx hb dX1_keepsLadderDown_59 rfl ?_
        subst hQ
        exact r_P hx hb hr hlocks (by first | rfl | decide) dX1_keepsLadderDown_60 (by first | exact congrArg zI (if_pos (by omega)).symm | exact congrArg zI (if_neg (by omega)).symm)
      · skip
        refine lv_iconst (v := zI 1) hx hb dX1_keepsLadderDown_39 rfl ?_
        refine lv_goto (tgt := 44) hx hb dX1_keepsLadderDown_40 (by decide) ?_
        refine lv_istore (lv' := [(4, iv 1), (3, iv 1), (0, .ref sa), (1, iv j), (2, iv v)]) hx hb dX1_keepsLadderDown_44 hl (by decide) rfl (fun ls hl => ?_)
        refine lv_iload_n hx hb dX1_keepsLadderDown_46 rfl (lv_at hl 1 rfl) ?_
        refine i_if_eq (tgt := 59) hx hb ⟨by decide, by decide⟩ dX1_keepsLadderDown_47 (by decide) (fun c_8 => absurd c_8 (by decide)) (fun c_8 => ?_)
        refine lv_iload hx hb dX1_keepsLadderDown_50 (lv_at hl 0 rfl) ?_
        refine i_if_eq (tgt := 59) hx hb ⟨by decide, by decide⟩ dX1_keepsLadderDown_52 (by decide) (fun c_9 => absurd c_9 (by decide)) (fun c_9 => ?_)
        refine lv_iconst (v := zI 1) hx hb dX1_keepsLadderDown_55 rfl ?_
        refine lv_goto (tgt := 60) hx hb dX1_keepsLadderDown_56 (by decide) ?_
        subst hQ
        exact r_P hx hb hr hlocks (by first | rfl | decide) dX1_keepsLadderDown_60 (by first | exact congrArg zI (if_pos (by omega)).symm | exact congrArg zI (if_neg (by omega)).symm)
  · skip
    refine lv_iload_n hx hb dX1_keepsLadderDown_4 rfl (lv_at hl 2 rfl) ?_
    refine lv_aload_n hx hb dX1_keepsLadderDown_5 rfl (lv_at hl 0 rfl) ?_
    refine va_get (D := D) (ci := 1) (v := .ref sp) (C := RX1) (T := TX1) (N := 7) hx hb hts inX1 hown hK hP 0 rfl rfl 0 (by decide) w0 (fun _ h9 => h9) rfl dX1_keepsLadderDown_6 ?_
    refine lv_iload_n hx hb dX1_keepsLadderDown_9 rfl (lv_at hl 1 rfl) ?_
    refine lv_iconst (v := zI 1) hx hb dX1_keepsLadderDown_10 rfl ?_
    refine i_isub hx hb dX1_keepsLadderDown_11 ?_
    have q1 := hpp (j - 1) (by omega) (by omega)
    refine i_iald hx hb hK hP 1 0 rfl rfl (by omega) (by omega) (by decide) dX1_keepsLadderDown_12 ?_
    refine i_icmp_gt (tgt := 20) hx hb ⟨by omega, by omega⟩ ⟨by omega, by omega⟩ dX1_keepsLadderDown_13 (by decide) (fun c_10 => ?_) (fun c_10 => ?_)
    · skip
      refine lv_iconst (v := zI 0) hx hb dX1_keepsLadderDown_20 rfl ?_
      refine lv_istore_n (lv' := [(3, iv 0), (0, .ref sa), (1, iv j), (2, iv v)]) hx hb dX1_keepsLadderDown_21 rfl hl (by decide) rfl (fun ls hl => ?_)
      refine lv_iload_n hx hb dX1_keepsLadderDown_22 rfl (lv_at hl 2 rfl) ?_
      refine lv_iconst (v := zI 4) hx hb dX1_keepsLadderDown_23 rfl ?_
      refine i_icmp_ge (tgt := 39) hx hb ⟨by omega, by omega⟩ ⟨by decide, by decide⟩ dX1_keepsLadderDown_24 (by decide) (fun c_11 => ?_) (fun c_11 => ?_)
      · skip
        refine lv_iconst (v := zI 1) hx hb dX1_keepsLadderDown_39 rfl ?_
        refine lv_goto (tgt := 44) hx hb dX1_keepsLadderDown_40 (by decide) ?_
        refine lv_istore (lv' := [(4, iv 1), (3, iv 0), (0, .ref sa), (1, iv j), (2, iv v)]) hx hb dX1_keepsLadderDown_44 hl (by decide) rfl (fun ls hl => ?_)
        refine lv_iload_n hx hb dX1_keepsLadderDown_46 rfl (lv_at hl 1 rfl) ?_
        refine i_if_eq (tgt := 59) hx hb ⟨by decide, by decide⟩ dX1_keepsLadderDown_47 (by decide) (fun c_12 => ?_) (fun c_12 => absurd (by decide) c_12)
        refine lv_iconst (v := zI 0) hx hb dX1_keepsLadderDown_59 rfl ?_
        subst hQ
        exact r_P hx hb hr hlocks (by first | rfl | decide) dX1_keepsLadderDown_60 (by first | exact congrArg zI (if_pos (by omega)).symm | exact congrArg zI (if_neg (by omega)).symm)
      · skip
        refine lv_iload_n hx hb dX1_keepsLadderDown_27 rfl (lv_at hl 3 rfl) ?_
        refine lv_aload_n hx hb dX1_keepsLadderDown_28 rfl (lv_at hl 1 rfl) ?_
        refine va_get (D := D) (ci := 1) (v := .ref sp) (C := RX1) (T := TX1) (N := 7) hx hb hts inX1 hown hK hP 0 rfl rfl 0 (by decide) w0 (fun _ h9 => h9) rfl dX1_keepsLadderDown_29 ?_
        refine lv_iload_n hx hb dX1_keepsLadderDown_32 rfl (lv_at hl 2 rfl) ?_
        refine lv_iconst (v := zI 1) hx hb dX1_keepsLadderDown_33 rfl ?_
        refine i_iadd hx hb dX1_keepsLadderDown_34 ?_
        have q2 := hpp (j + 1) (by omega) (by omega)
        refine i_iald hx hb hK hP 1 0 rfl rfl (by omega) (by omega) (by decide) dX1_keepsLadderDown_35 ?_
        refine i_icmp_lt (tgt := 43) hx hb ⟨by omega, by omega⟩ ⟨by omega, by omega⟩ dX1_keepsLadderDown_36 (by decide) (fun c_13 => ?_) (fun c_13 => ?_)
        · skip
          refine lv_iconst (v := zI 0) hx hb dX1_keepsLadderDown_43 rfl ?_
          refine lv_istore (lv' := [(4, iv 0), (3, iv 0), (0, .ref sa), (1, iv j), (2, iv v)]) hx hb dX1_keepsLadderDown_44 hl (by decide) rfl (fun ls hl => ?_)
          refine lv_iload_n hx hb dX1_keepsLadderDown_46 rfl (lv_at hl 1 rfl) ?_
          refine i_if_eq (tgt := 59) hx hb ⟨by decide, by decide⟩ dX1_keepsLadderDown_47 (by decide) (fun c_14 => ?_) (fun c_14 => absurd (by decide) c_14)
          refine lv_iconst (v := zI 0) hx hb dX1_keepsLadderDown_59 rfl ?_
          subst hQ
          exact r_P hx hb hr hlocks (by first | rfl | decide) dX1_keepsLadderDown_60 (by first | exact congrArg zI (if_pos (by omega)).symm | exact congrArg zI (if_neg (by omega)).symm)
        · skip
          refine lv_iconst (v := zI 1) hx hb dX1_keepsLadderDown_39 rfl ?_
          refine lv_goto (tgt := 44) hx hb dX1_keepsLadderDown_40 (by decide) ?_
          refine lv_istore (lv' := [(4, iv 1), (3, iv 0), (0, .ref sa), (1, iv j), (2, iv v)]) hx hb dX1_keepsLadderDown_44 hl (by decide) rfl (fun ls hl => ?_)
          refine lv_iload_n hx hb dX1_keepsLadderDown_46 rfl (lv_at hl 1 rfl) ?_
          refine i_if_eq (tgt := 59) hx hb ⟨by decide, by decide⟩ dX1_keepsLadderDown_47 (by decide) (fun c_15 => ?_) (fun c_15 => absurd (by decide) c_15)
          refine lv_iconst (v := zI 0) hx hb dX1_keepsLadderDown_59 rfl ?_
          subst hQ
          exact r_P hx hb hr hlocks (by first | rfl | decide) dX1_keepsLadderDown_60 (by first | exact congrArg zI (if_pos (by omega)).symm | exact congrArg zI (if_neg (by omega)).symm)
    · skip
      refine lv_iconst (v := zI 1) hx hb dX1_keepsLadderDown_16 rfl ?_
      refine lv_goto (tgt := 21) hx hb dX1_keepsLadderDown_17 (by decide) ?_
      refine lv_istore_n (lv' := [(3, iv 1), (0, .ref sa), (1, iv j), (2, iv v)]) hx hb dX1_keepsLadderDown_21 rfl hl (by decide) rfl (fun ls hl => ?_)
      refine lv_iload_n hx hb dX1_keepsLadderDown_22 rfl (lv_at hl 2 rfl) ?_
      refine lv_iconst (v := zI 4) hx hb dX1_keepsLadderDown_23 rfl ?_
      refine i_icmp_ge (tgt := 39) hx hb ⟨by omega, by omega⟩ ⟨by decide, by decide⟩ dX1_keepsLadderDown_24 (by decide) (fun c_16 => ?_) (fun c_16 => ?_)
      · skip
        refine lv_iconst (v := zI 1) hx hb dX1_keepsLadderDown_39 rfl ?_
        refine lv_goto (tgt := 44) hx hb dX1_keepsLadderDown_40 (by decide) ?_
        refine lv_istore (lv' := [(4, iv 1), (3, iv 1), (0, .ref sa), (1, iv j), (2, iv v)]) hx hb dX1_keepsLadderDown_44 hl (by decide) rfl (fun ls hl => ?_)
        refine lv_iload_n hx hb dX1_keepsLadderDown_46 rfl (lv_at hl 1 rfl) ?_
        refine i_if_eq (tgt := 59) hx hb ⟨by decide, by decide⟩ dX1_keepsLadderDown_47 (by decide) (fun c_17 => absurd c_17 (by decide)) (fun c_17 => ?_)
        refine lv_iload hx hb dX1_keepsLadderDown_50 (lv_at hl 0 rfl) ?_
        refine i_if_eq (tgt := 59) hx hb ⟨by decide, by decide⟩ dX1_keepsLadderDown_52 (by decide) (fun c_18 => absurd c_18 (by decide)) (fun c_18 => ?_)
        refine lv_iconst (v := zI 1) hx hb dX1_keepsLadderDown_55 rfl ?_
        refine lv_goto (tgt := 60) hx hb dX1_keepsLadderDown_56 (by decide) ?_
        subst hQ
        exact r_P hx hb hr hlocks (by first | rfl | decide) dX1_keepsLadderDown_60 (by first | exact congrArg zI (if_pos (by omega)).symm | exact congrArg zI (if_neg (by omega)).symm)
      · skip
        refine lv_iload_n hx hb dX1_keepsLadderDown_27 rfl (lv_at hl 3 rfl) ?_
        refine lv_aload_n hx hb dX1_keepsLadderDown_28 rfl (lv_at hl 1 rfl) ?_
        refine va_get (D := D) (ci := 1) (v := .ref sp) (C := RX1) (T := TX1) (N := 7) hx hb hts inX1 hown hK hP 0 rfl rfl 0 (by decide) w0 (fun _ h9 => h9) rfl dX1_keepsLadderDown_29 ?_
        refine lv_iload_n hx hb dX1_keepsLadderDown_32 rfl (lv_at hl 2 rfl) ?_
        refine lv_iconst (v := zI 1) hx hb dX1_keepsLadderDown_33 rfl ?_
        refine i_iadd hx hb dX1_keepsLadderDown_34 ?_
        have q2 := hpp (j + 1) (by omega) (by omega)
        refine i_iald hx hb hK hP 1 0 rfl rfl (by omega) (by omega) (by decide) dX1_keepsLadderDown_35 ?_
        refine i_icmp_lt (tgt := 43) hx hb ⟨by omega, by omega⟩ ⟨by omega, by omega⟩ dX1_keepsLadderDown_36 (by decide) (fun c_19 => ?_) (fun c_19 => ?_)
        · skip
          refine lv_iconst (v := zI 0) hx hb dX1_keepsLadderDown_43 rfl ?_
          refine lv_istore (lv' := [(4, iv 0), (3, iv 1), (0, .ref sa), (1, iv j), (2, iv v)]) hx hb dX1_keepsLadderDown_44 hl (by decide) rfl (fun ls hl => ?_)
          refine lv_iload_n hx hb dX1_keepsLadderDown_46 rfl (lv_at hl 1 rfl) ?_
          refine i_if_eq (tgt := 59) hx hb ⟨by decide, by decide⟩ dX1_keepsLadderDown_47 (by decide) (fun c_20 => absurd c_20 (by decide)) (fun c_20 => ?_)
          refine lv_iload hx hb dX1_keepsLadderDown_50 (lv_at hl 0 rfl) ?_
          refine i_if_eq (tgt := 59) hx hb ⟨by decide, by decide⟩ dX1_keepsLadderDown_52 (by decide) (fun c_21 => ?_) (fun c_21 => absurd (by decide) c_21)
          refine lv_iconst (v := zI 0) hx hb dX1_keepsLadderDown_59 rfl ?_
          subst hQ
          exact r_P hx hb hr hlocks (by first | rfl | decide) dX1_keepsLadderDown_60 (by first | exact congrArg zI (if_pos (by omega)).symm | exact congrArg zI (if_neg (by omega)).symm)
        · skip
          refine lv_iconst (v := zI 1) hx hb dX1_keepsLadderDown_39 rfl ?_
          refine lv_goto (tgt := 44) hx hb dX1_keepsLadderDown_40 (by decide) ?_
          refine lv_istore (lv' := [(4, iv 1), (3, iv 1), (0, .ref sa), (1, iv j), (2, iv v)]) hx hb dX1_keepsLadderDown_44 hl (by decide) rfl (fun ls hl => ?_)
          refine lv_iload_n hx hb dX1_keepsLadderDown_46 rfl (lv_at hl 1 rfl) ?_
          refine i_if_eq (tgt := 59) hx hb ⟨by decide, by decide⟩ dX1_keepsLadderDown_47 (by decide) (fun c_22 => absurd c_22 (by decide)) (fun c_22 => ?_)
          refine lv_iload hx hb dX1_keepsLadderDown_50 (lv_at hl 0 rfl) ?_
          refine i_if_eq (tgt := 59) hx hb ⟨by decide, by decide⟩ dX1_keepsLadderDown_52 (by decide) (fun c_23 => absurd c_23 (by decide)) (fun c_23 => ?_)
          refine lv_iconst (v := zI 1) hx hb dX1_keepsLadderDown_55 rfl ?_
          refine lv_goto (tgt := 60) hx hb dX1_keepsLadderDown_56 (by decide) ?_
          subst hQ
          exact r_P hx hb hr hlocks (by first | rfl | decide) dX1_keepsLadderDown_60 (by first | exact congrArg zI (if_pos (by omega)).symm | exact congrArg zI (if_neg (by omega)).symm)
end
section
/-! plans, as numbers: what is still to be had with n weeks left, at a step b, w weeks to wait, l pieces; -1: no plan -/
def mxf (f : Int → Int) (b : Int) : Nat → Int
  | 0 => -1
  | n + 1 => max (mxf f b n) (f (b + n))
def add1 (r x : Int) : Int := if r = -1 then -1 else r + x
/-- the worth of taking the step i now, V what follows -/
def cand (V : Int → Int → Int → Int) (pr d : Int → Int) (g b w l i : Int) : Int := if b < i ∧ 0 < w then -1 else add1 (V i (if b < i then g - 1 else if 0 < w then w - 1 else 0) (l - min (d i) l)) (min (d i) l * pr i)
def pv (pr d : Int → Int) (g r ml : Int) : Nat → Int → Int → Int → Int
  | 0 => fun _ _ l => if l ≤ ml then l * r else -1
  | n + 1 => fun b w l => mxf (cand (pv pr d g r ml n) pr d g b w l) b (5 - b).toNat
theorem mxf_ge (f : Int → Int) (b : Int) (n : Nat) : -1 ≤ mxf f b n := by
  induction n with
  | zero => exact Int.le_refl _
  | succ n ih => show -1 ≤ max _ _; omega
theorem mxf_le {f : Int → Int} {b M : Int} (hM : -1 ≤ M) : ∀ n : Nat, (∀ j : Nat, j < n → f (b + j) ≤ M) → mxf f b n ≤ M := by
  intro n
  induction n with
  | zero => intro _; exact hM
  | succ n ih =>
    intro h
    have h1 := ih (fun j hj => h j (by omega))
    have h2 := h n (by omega)
    show max _ _ ≤ M
    omega
theorem mxf_at {f : Int → Int} {b : Int} : ∀ (n : Nat) (j : Nat), j < n → f (b + j) ≤ mxf f b n := by
  intro n
  induction n with
  | zero => intro j hj; omega
  | succ n ih =>
    intro j hj
    show _ ≤ max _ _
    by_cases h : j < n
    · have := ih j h; omega
    · have e : j = n := by omega
      subst e; omega
/-- where it is not -1, some step gives it -/
theorem mxf_ex {f : Int → Int} {b : Int} : ∀ n : Nat, mxf f b n ≠ -1 → ∃ j : Nat, j < n ∧ f (b + j) = mxf f b n := by
  intro n
  induction n with
  | zero => intro h; exact absurd rfl h
  | succ n ih =>
    intro h
    have e : mxf f b (n + 1) = max (mxf f b n) (f (b + n)) := rfl
    by_cases h1 : mxf f b n ≤ f (b + n)
    · exact ⟨n, by omega, by rw [e]; omega⟩
    · obtain ⟨j, hj, hj2⟩ := ih (by intro h2; rw [e] at h; have := mxf_ge f b n; omega)
      exact ⟨j, by omega, by rw [e]; omega⟩
theorem mxf_congr {f g : Int → Int} {b : Int} : ∀ n : Nat, (∀ j : Nat, j < n → f (b + j) = g (b + j)) → mxf f b n = mxf g b n := by
  intro n
  induction n with
  | zero => intro _; rfl
  | succ n ih =>
    intro h
    show max _ _ = max _ _
    rw [ih (fun j hj => h j (by omega)), h n (by omega)]
/-- only the first counts -/
theorem mxf_one {f : Int → Int} {b : Int} (n : Nat) (h0 : -1 ≤ f b) (h : ∀ j : Nat, 0 < j → j < n + 1 → f (b + j) = -1) : mxf f b (n + 1) = f b := by
  induction n with
  | zero => show max (-1) (f (b + ((0 : Nat) : Int))) = f b; simp; omega
  | succ n ih =>
    show max (mxf f b (n + 1)) (f (b + ((n + 1 : Nat) : Int))) = f b
    rw [ih (fun j h1 h2 => h j h1 (by omega)), h (n + 1) (by omega) (by omega)]
    omega
section PV
variable {pr d : Int → Int} {g r ml : Int}
theorem add1_ge {a x : Int} (ha : -1 ≤ a) (hx : 0 ≤ x) : -1 ≤ add1 a x := by unfold add1; split <;> omega
theorem pv_ge (hd : ∀ j : Int, 0 ≤ j → j < 5 → 0 ≤ d j) (hpr : ∀ j : Int, 0 ≤ j → j < 5 → 0 ≤ pr j) (hr : 0 ≤ r) : ∀ (n : Nat) (b w l : Int), 0 ≤ l → -1 ≤ pv pr d g r ml n b w l := by
  intro n b w l hl
  cases n with
  | zero =>
    show -1 ≤ if l ≤ ml then l * r else -1
    split
    · have := Int.mul_nonneg hl hr; omega
    · exact Int.le_refl _
  | succ n => exact mxf_ge _ _ _
theorem pv_le (hd : ∀ j : Int, 0 ≤ j → j < 5 → 0 ≤ d j) (hpr : ∀ j : Int, 0 ≤ j → j < 5 → 0 ≤ pr j ∧ pr j ≤ 1000) (hr : r ≤ 1000) : ∀ (n : Nat) (b w l : Int), 0 ≤ b → 0 ≤ l → pv pr d g r ml n b w l ≤ l * 1000 := by
  intro n
  induction n with
  | zero =>
    intro b w l _ hl
    show (if l ≤ ml then l * r else -1) ≤ l * 1000
    split
    · exact Int.mul_le_mul_of_nonneg_left hr hl
    · omega
  | succ n ih =>
    intro b w l hb hl
    refine mxf_le (by omega) _ (fun j hj => ?_)
    have hj5 : b + (j : Int) < 5 := by omega
    have h1 := hd (b + j) (by omega) hj5
    have h2 := hpr (b + j) (by omega) hj5
    unfold cand
    generalize (if b < b + (j : Int) then g - 1 else if 0 < w then w - 1 else 0) = w2
    by_cases hc : b < b + (j : Int) ∧ 0 < w
    · rw [if_pos hc]; omega
    · rw [if_neg hc]
      have h3 : 0 ≤ min (d (b + j)) l := by omega
      have h4 := ih (b + j) w2 (l - min (d (b + j)) l) (by omega) (by omega)
      have h5 : min (d (b + j)) l * pr (b + j) ≤ min (d (b + j)) l * 1000 := Int.mul_le_mul_of_nonneg_left h2.2 h3
      unfold add1
      by_cases hV : pv pr d g r ml n (b + j) w2 (l - min (d (b + j)) l) = -1
      · rw [if_pos hV]; omega
      · rw [if_neg hV]; omega
/-- waiting: only one's own step -/
theorem pv_wait (hd : ∀ j : Int, 0 ≤ j → j < 5 → 0 ≤ d j) (hpr : ∀ j : Int, 0 ≤ j → j < 5 → 0 ≤ pr j) (hr : 0 ≤ r) (n : Nat) {b w l : Int} (hb : 0 ≤ b) (hb5 : b < 5) (hw : 0 < w) (hl : 0 ≤ l) :
    pv pr d g r ml (n + 1) b w l = add1 (pv pr d g r ml n b (w - 1) (l - min (d b) l)) (min (d b) l * pr b) := by
  have e0 : cand (pv pr d g r ml n) pr d g b w l b = add1 (pv pr d g r ml n b (w - 1) (l - min (d b) l)) (min (d b) l * pr b) := by
    unfold cand
    rw [if_neg (by omega), if_neg (by omega), if_pos hw]
  show mxf (cand (pv pr d g r ml n) pr d g b w l) b (5 - b).toNat = _
  rw [← e0]
  obtain ⟨k, hk⟩ : ∃ k : Nat, (5 - b).toNat = k + 1 := ⟨(5 - b).toNat - 1, by omega⟩
  rw [hk]
  refine mxf_one k ?_ (fun j h1 h2 => ?_)
  · rw [e0]
    have h1 := hd b hb hb5
    exact add1_ge (pv_ge hd hpr hr _ _ _ _ (by omega)) (Int.mul_nonneg (by omega) (hpr b hb hb5))
  · unfold cand
    rw [if_pos ⟨by omega, hw⟩]
/-- keeping a step through the wait at once -/
theorem pv_keep (hd : ∀ j : Int, 0 ≤ j → j < 5 → 0 ≤ d j) (hpr : ∀ j : Int, 0 ≤ j → j < 5 → 0 ≤ pr j) (hr : 0 ≤ r) {b : Int} (hb : 0 ≤ b) (hb5 : b < 5) : ∀ (k n : Nat) (w l : Int), 0 ≤ l → (k : Int) = min w (n : Int) →
    pv pr d g r ml n b w l = add1 (pv pr d g r ml (n - k) b 0 (l - min l (k * d b))) (min l (k * d b) * pr b) := by
  intro k
  have hd0 := hd b hb hb5
  induction k with
  | zero =>
    intro n w l hl hk
    have e : min l (((0 : Nat) : Int) * d b) = 0 := by simp; omega
    rw [e]
    have a0 : ∀ x : Int, add1 x (0 * pr b) = x := fun x => by unfold add1; split <;> omega
    rw [a0, Int.sub_zero, Nat.sub_zero]
    cases n with
    | zero => rfl
    | succ n =>
      have hw : w = 0 := by omega
      rw [hw]
  | succ k ih =>
    intro n w l hl hk
    cases n with
    | zero => omega
    | succ n =>
      rw [pv_wait hd hpr hr n hb hb5 (by omega) hl]
      have hmul : ((k + 1 : Nat) : Int) * d b = (k : Int) * d b + d b := by rw [Int.natCast_add, Int.add_mul]; simp
      have hkd : 0 ≤ (k : Int) * d b := Int.mul_nonneg (by omega) hd0
      have ih2 := ih n (w - 1) (l - min (d b) l) (by omega) (by omega)
      rw [ih2, hmul]
      generalize hq : (k : Int) * d b = q at hkd ⊢
      have en : n + 1 - (k + 1) = n - k := by omega
      rw [en]
      have e1 : l - min (d b) l - min (l - min (d b) l) q = l - min l (q + d b) := by omega
      have e2 : min (l - min (d b) l) q * pr b + min (d b) l * pr b = min l (q + d b) * pr b := by
        rw [← Int.add_mul]; congr 1; omega
      rw [e1]
      have p2 := hpr b hb hb5
      have h1 : 0 ≤ min (l - min (d b) l) q * pr b := Int.mul_nonneg (by omega) p2
      have h2 := pv_ge (g := g) (ml := ml) hd hpr hr (n - k) b 0 (l - min l (q + d b)) (by omega)
      unfold add1
      by_cases hV : pv pr d g r ml (n - k) b 0 (l - min l (q + d b)) = -1
      · rw [if_pos hV, if_pos hV, if_pos rfl]
      · rw [if_neg hV, if_neg hV, if_neg (by omega)]; omega
/-- a markdown keeps its step for the gap -/
theorem pv_take (hd : ∀ j : Int, 0 ≤ j → j < 5 → 0 ≤ d j) (hpr : ∀ j : Int, 0 ≤ j → j < 5 → 0 ≤ pr j) (hr : 0 ≤ r) (hg : 1 ≤ g) (n : Nat) {b i l : Int} (hbi : b ≤ i) (hi0 : 0 ≤ i) (hi : i < 5) (hl : 0 ≤ l) :
    pv pr d g r ml (n + 1) i (if b < i then g else 1) l = cand (pv pr d g r ml n) pr d g b 0 l i := by
  rw [pv_wait hd hpr hr n hi0 hi (by split <;> omega) hl]
  unfold cand
  rw [if_neg (show ¬ (b < i ∧ (0 : Int) < 0) by omega)]
  by_cases h : b < i
  · simp only [if_pos h]
  · simp only [if_neg h]
    rw [if_neg (show ¬ (0 : Int) < 0 by omega)]
    rfl
/-- a wait as long as what is left -/
theorem pv_min (hd : ∀ j : Int, 0 ≤ j → j < 5 → 0 ≤ d j) (hpr : ∀ j : Int, 0 ≤ j → j < 5 → 0 ≤ pr j) (hr : 0 ≤ r) {b : Int} (hb : 0 ≤ b) (hb5 : b < 5) (n : Nat) {w l : Int} (hw : 0 ≤ w) (hl : 0 ≤ l) : pv pr d g r ml n b (min w n) l = pv pr d g r ml n b w l := by
  obtain ⟨k, hk⟩ : ∃ k : Nat, (k : Int) = min w (n : Int) := ⟨(min w (n : Int)).toNat, by omega⟩
  rw [pv_keep hd hpr hr hb hb5 k n w l hl hk, pv_keep hd hpr hr hb hb5 k n (min w n) l hl (by omega)]
end PV
theorem mxf_step {f : Int → Int} {b i : Int} (h : b ≤ i) : mxf f b (i + 1 - b).toNat = max (mxf f b (i - b).toNat) (f i) := by
  have e : (i + 1 - b).toNat = (i - b).toNat + 1 := by omega
  rw [e]
  show max _ (f (b + (((i - b).toNat : Nat) : Int))) = _
  rw [show b + (((i - b).toNat : Nat) : Int) = i by omega]
/-- the first step that gives v -/
def fnd (f : Int → Int) (v : Int) (b : Int) : Nat → Int
  | 0 => b
  | n + 1 => if f b = v then b else fnd f v (b + 1) n
theorem fnd_eq {f : Int → Int} {v : Int} : ∀ (n : Nat) {b i : Int}, b ≤ i → i < b + n → f i = v → (∀ j : Int, b ≤ j → j < i → f j ≠ v) → fnd f v b n = i := by
  intro n
  induction n with
  | zero => intro b i h1 h2; omega
  | succ n ih =>
    intro b i h1 h2 h3 h4
    show (if f b = v then b else fnd f v (b + 1) n) = i
    by_cases hb : b = i
    · subst hb; rw [if_pos h3]
    · rw [if_neg (h4 b (by omega) (by omega))]
      exact ih (by omega) (by omega) h3 (fun j q1 q2 => h4 j (by omega) q2)
/-- a plan week by week: step, weeks to wait, what is left, behind k weeks -/
def pst (pr d : Int → Int) (g r ml : Int) (n0 : Nat) (b w l : Int) : Nat → Int × Int × Int
  | 0 => (b, w, l)
  | k + 1 =>
    let q := pst pr d g r ml n0 b w l k
    let i := fnd (cand (pv pr d g r ml (n0 - k - 1)) pr d g q.1 q.2.1 q.2.2) (pv pr d g r ml (n0 - k) q.1 q.2.1 q.2.2) q.1 (5 - q.1).toNat
    (i, if q.1 < i then g - 1 else if 0 < q.2.1 then q.2.1 - 1 else 0, q.2.2 - min (d i) q.2.2)
section PV2
variable {pr d : Int → Int} {g r ml : Int}
theorem cand_in (hd : ∀ j : Int, 0 ≤ j → j < 5 → 0 ≤ d j) (hpr : ∀ j : Int, 0 ≤ j → j < 5 → 0 ≤ pr j ∧ pr j ≤ 1000) (hr : 0 ≤ r ∧ r ≤ 1000) (n : Nat) {b i l w : Int} (hi0 : 0 ≤ i) (hi : i < 5) (hl : 0 ≤ l) : -1 ≤ cand (pv pr d g r ml n) pr d g b w l i ∧ cand (pv pr d g r ml n) pr d g b w l i ≤ l * 1000 := by
  have h1 := hd i hi0 hi
  have h2 := hpr i hi0 hi
  unfold cand
  generalize (if b < i then g - 1 else if 0 < w then w - 1 else 0) = w2
  by_cases hc : b < i ∧ 0 < w
  · rw [if_pos hc]; omega
  · rw [if_neg hc]
    have h3 : 0 ≤ min (d i) l := by omega
    have h4 := pv_le (g := g) (ml := ml) hd hpr hr.2 n i w2 (l - min (d i) l) hi0 (by omega)
    have h6 := pv_ge (g := g) (ml := ml) hd (fun j a b => (hpr j a b).1) hr.1 n i w2 (l - min (d i) l) (by omega)
    have h5 : min (d i) l * pr i ≤ min (d i) l * 1000 := Int.mul_le_mul_of_nonneg_left h2.2 h3
    have h7 : 0 ≤ min (d i) l * pr i := Int.mul_nonneg h3 h2.1
    unfold add1
    by_cases hV : pv pr d g r ml n i w2 (l - min (d i) l) = -1
    · rw [if_pos hV]; omega
    · rw [if_neg hV]; omega
/-- nothing is asked of what is left: some plan is there -/
theorem pv_pos (hd : ∀ j : Int, 0 ≤ j → j < 5 → 0 ≤ d j) (hpr : ∀ j : Int, 0 ≤ j → j < 5 → 0 ≤ pr j) (hr : 0 ≤ r) : ∀ (n : Nat) (b w l : Int), 0 ≤ b → b < 5 → 0 ≤ l → l ≤ ml → 0 ≤ pv pr d g r ml n b w l := by
  intro n
  induction n with
  | zero =>
    intro b w l _ _ hl hm
    show 0 ≤ if l ≤ ml then l * r else -1
    rw [if_pos hm]; exact Int.mul_nonneg hl hr
  | succ n ih =>
    intro b w l hb hb5 hl hm
    have h0 : cand (pv pr d g r ml n) pr d g b w l (b + ((0 : Nat) : Int)) ≤ pv pr d g r ml (n + 1) b w l := mxf_at _ 0 (by omega)
    have h1 := hd b hb hb5
    have h2 := hpr b hb hb5
    have h3 := ih b (if 0 < w then w - 1 else 0) (l - min (d b) l) hb hb5 (by omega) (by omega)
    have h7 : 0 ≤ min (d b) l * pr b := Int.mul_nonneg (by omega) h2
    have h4 : 0 ≤ cand (pv pr d g r ml n) pr d g b w l (b + ((0 : Nat) : Int)) := by
      simp only [Int.natCast_zero, Int.add_zero]
      unfold cand
      rw [if_neg (show ¬ (b < b ∧ 0 < w) by omega), if_neg (show ¬ b < b by omega)]
      unfold add1
      rw [if_neg (by omega)]
      omega
    omega
/-- some step gives the best -/
theorem pv_ex (n : Nat) {b w l : Int} (hb5 : b < 5) (h : pv pr d g r ml (n + 1) b w l ≠ -1) : ∃ i : Int, b ≤ i ∧ i < 5 ∧ cand (pv pr d g r ml n) pr d g b w l i = pv pr d g r ml (n + 1) b w l := by
  obtain ⟨j, h1, h2⟩ := mxf_ex _ h
  exact ⟨b + j, by omega, by omega, h2⟩
/-- while waiting, one's own step is the first that gives the best -/
theorem fnd_wait (hd : ∀ j : Int, 0 ≤ j → j < 5 → 0 ≤ d j) (hpr : ∀ j : Int, 0 ≤ j → j < 5 → 0 ≤ pr j) (hr : 0 ≤ r) (n : Nat) {b w l : Int} (hb : 0 ≤ b) (hb5 : b < 5) (hw : 0 < w) (hl : 0 ≤ l) :
    fnd (cand (pv pr d g r ml n) pr d g b w l) (pv pr d g r ml (n + 1) b w l) b (5 - b).toNat = b := by
  refine fnd_eq _ (Int.le_refl b) (by omega) ?_ (fun j h1 h2 => by omega)
  rw [pv_wait hd hpr hr n hb hb5 hw hl]
  unfold cand
  rw [if_neg (show ¬ (b < b ∧ 0 < w) by omega), if_neg (show ¬ b < b by omega), if_pos hw]
end PV2
/-- what a plan's numbers are -/
def PB (pr d : Int → Int) (fw fr ew g r os ok : Int) : Prop := (0 ≤ fw ∧ fw ≤ ew ∧ ew ≤ 10) ∧ (fw ≤ fr ∧ fr ≤ ew) ∧ (1 ≤ g ∧ g ≤ 4) ∧ (0 ≤ r ∧ r ≤ 1000) ∧ (0 ≤ os ∧ os < 5) ∧ (0 ≤ ok ∧ ok ≤ 60) ∧ (∀ j : Int, 0 ≤ j → j < 5 → 0 ≤ pr j ∧ pr j ≤ 1000) ∧ (∀ j : Int, 0 ≤ j → j < 5 → 0 ≤ d j ∧ d j ≤ 30)
/-- the table is told from the week lo on -/
def GW (pr d : Int → Int) (g r ml ew os ok : Int) (wo : Int → Int) (lo : Int) : Prop := ∀ wk st lf : Int, lo ≤ wk → wk < ew → os ≤ st → st < 5 → 0 ≤ lf → lf ≤ ok → wo ((wk * 5 + st) * 61 + lf) = pv pr d g r ml (ew - wk).toNat st 0 lf
/-- .. and of the week wk, up to step st, lf left -/
def GP (pr d : Int → Int) (g r ml ew os ok : Int) (wo : Int → Int) (wk st lf : Int) : Prop := ∀ st1 lf1 : Int, os ≤ st1 → st1 < 5 → 0 ≤ lf1 → lf1 ≤ ok → (st1 < st ∨ (st1 = st ∧ lf1 < lf)) → wo ((wk * 5 + st1) * 61 + lf1) = pv pr d g r ml (ew - wk).toNat st1 0 lf1
theorem GW.put {pr d : Int → Int} {g r ml ew os ok : Int} {wo : Int → Int} {wk st lf v : Int} (h : GW pr d g r ml ew os ok wo (wk + 1)) (hos : 0 ≤ os) (h1 : st < 5) (h2 : 0 ≤ st) (h3 : 0 ≤ lf) (h4 : lf ≤ ok) (h5 : ok ≤ 60) : GW pr d g r ml ew os ok (ui wo ((wk * 5 + st) * 61 + lf) v) (wk + 1) := by
  intro wk1 st1 lf1 q1 q2 q3 q4 q5 q6
  rw [ui_n (by omega)]
  exact h wk1 st1 lf1 q1 q2 q3 q4 q5 q6
theorem GP.put {pr d : Int → Int} {g r ml ew os ok : Int} {wo : Int → Int} {wk st lf : Int} (h : GP pr d g r ml ew os ok wo wk st lf) (hos : 0 ≤ os) (h1 : st < 5) (h2 : 0 ≤ st) (h3 : 0 ≤ lf) (h4 : lf ≤ ok) (h5 : ok ≤ 60) : GP pr d g r ml ew os ok (ui wo ((wk * 5 + st) * 61 + lf) (pv pr d g r ml (ew - wk).toNat st 0 lf)) wk st (lf + 1) := by
  intro st1 lf1 q1 q2 q3 q4 q5
  by_cases he : st1 = st ∧ lf1 = lf
  · obtain ⟨rfl, rfl⟩ := he
    rw [ui_s]
  · rw [ui_n (by omega)]
    exact h st1 lf1 q1 q2 q3 q4 (by omega)
theorem GP.next {pr d : Int → Int} {g r ml ew os ok : Int} {wo : Int → Int} {wk st lf : Int} (h : GP pr d g r ml ew os ok wo wk st lf) (hl : ok < lf) : GP pr d g r ml ew os ok wo wk (st + 1) 0 := by
  intro st1 lf1 q1 q2 q3 q4 q5
  exact h st1 lf1 q1 q2 q3 q4 (by omega)
theorem GP.zero {pr d : Int → Int} {g r ml ew os ok : Int} {wo : Int → Int} {wk : Int} : GP pr d g r ml ew os ok wo wk os 0 := by
  intro st1 lf1 q1 q2 q3 q4 q5
  omega
theorem GW.down {pr d : Int → Int} {g r ml ew os ok : Int} {wo : Int → Int} {wk st : Int} (h : GW pr d g r ml ew os ok wo (wk + 1)) (hp : GP pr d g r ml ew os ok wo wk st 0) (hs : 5 ≤ st) : GW pr d g r ml ew os ok wo wk := by
  intro wk1 st1 lf1 q1 q2 q3 q4 q5 q6
  by_cases he : wk1 = wk
  · subst he; exact hp st1 lf1 q3 q4 q5 q6 (by omega)
  · exact h wk1 st1 lf1 (by omega) q2 q3 q4 q5 q6
theorem GW.mono {pr d : Int → Int} {g r ml ew os ok : Int} {wo : Int → Int} {lo lo2 : Int} (h : GW pr d g r ml ew os ok wo lo) (hl : lo ≤ lo2) : GW pr d g r ml ew os ok wo lo2 := fun wk st lf q1 => h wk st lf (by omega)
end
section
abbrev rm_X0_init : Room := { frames := 1, cells := 4, slots := 3066, locals := 20 }
set_option maxHeartbeats 4000000 in
set_option maxRecDepth 100000 in
/-- the rows of the plans -/
theorem mt_X0_init (l : Launch) (D : va_G) (cI cS cJ : ClassId) (oa : Nat)  : cM l yX0_init wsX0_init rm_X0_init [.ref oa] D (tyL cI cS cJ) [(oa, ob 0 [.null, .null, .null, .null, iv 0, iv 0, iv 0, iv 0, iv 0, iv 0, iv 0, iv 0])] (fun r_ w_ => ∃ op : Nat, ∃ od : Nat, ∃ ow : Nat, ∃ ol : Nat, r_ = none ∧ w_ = [(oa, ob 0 [.ref op, .ref od, .ref ow, .ref ol, iv 0, iv 0, iv 0, iv 0, iv 0, iv 0, iv 0, iv 0]), (op, ar cI 5 ((fun _ => 0))), (od, ar cI 5 ((fun _ => 0))), (ow, ar cI 3050 ((fun _ => 0))), (ol, ar cI 6 ((fun _ => 0)))]) 4 3066 := by
  refine en_M (cc := cX0_init) (maxL := 1) (ret := none) (by decide) rfl (Nat.le_of_ble_eq_true rfl) ?_
  intro p e s m args below meth c ls A hX hE hP hK hD hS hA hl Q hQ
  obtain ⟨hx, hb, hr, hml, hts, hown, hlocks, hnm⟩ := hX
  have hown : s.vm.findClass RX0 = some m.cls := hown
  have hl : lv_has ls 1 [(0, .ref oa)] := hl
  have inX0 : ∀ w ∈ u_ws RX0 TX0 12, w ∈ wsX0_init := by decide +kernel
  have w0 : (Cond.methodLink RX0 3 objectInit).before args s = true := hts _ (by decide +kernel)
  have w1 : (Cond.instanceMethod objectInit).before args s = true := hts _ (by decide +kernel)
  have w2 : (Cond.code objectInit ⟨#[0xb1]⟩ 1 none).before args s = true := hts _ (by decide +kernel)
  have w3 : (Cond.arrayClass .int).before args s = true := hts _ (by decide +kernel)
  have w4 : (Cond.fieldLink RX0 9 RX0 "prices" "[I").before args s = true := hts _ (by decide +kernel)
  have w5 : (Cond.fieldLink RX0 15 RX0 "demands" "[I").before args s = true := hts _ (by decide +kernel)
  have w6 : (Cond.fieldLink RX0 18 RX0 "worths" "[I").before args s = true := hts _ (by decide +kernel)
  have w7 : (Cond.fieldLink RX0 21 RX0 "ladder" "[I").before args s = true := hts _ (by decide +kernel)
  refine lv_aload_n hx hb dX0_init_0 rfl (lv_at hl 0 rfl) ?_
  refine W.objInit hx hb hown w0 w1 w2 rfl (by rw [hml]; exact hl.1) rfl dX0_init_1 (Nat.le_of_ble_eq_true rfl) (Nat.le_of_ble_eq_true rfl) ?_
  refine W.eq (g2 := F0 m 4 ls []) rfl ?_
  refine lv_aload_n hx hb dX0_init_4 rfl (lv_at hl 0 rfl) ?_
  refine lv_iconst (v := zI 5) hx hb dX0_init_5 rfl ?_
  refine i_newa (n := 5) (N := 5) hx hb w3 hK hP hD hS hA rfl (Nat.le_of_ble_eq_true rfl) (Nat.le_of_ble_eq_true rfl) (Nat.le_of_ble_eq_true rfl) dX0_init_6 (fun q_1 H hP hD hS => ?_)
  have hP : va_P D vwCl [(oa, ob 0 [.null, .null, .null, .null, iv 0, iv 0, iv 0, iv 0, iv 0, iv 0, iv 0, iv 0]), (q_1, ar cI 5 ((fun _ => 0)))] H := hP
  have hD : va_D A [(oa, ob 0 [.null, .null, .null, .null, iv 0, iv 0, iv 0, iv 0, iv 0, iv 0, iv 0, iv 0]), (q_1, ar cI 5 ((fun _ => 0)))] := hD
  refine va_putF (D := D) (ci := 0) (v := .ref q_1) (ty := (.array .int)) (C := RX0) (T := TX0) (N := 12) hx hb hts inX0 tyX0 tyX0_ok nmX0 hown hK hP hD hS 0 rfl rfl 0 (by decide) w4 (fun _ h9 => h9) rfl hnm rfl (by decide +kernel) rfl rfl (Nat.le_of_ble_eq_true rfl) dX0_init_8 (fun H locs hP hD hS => ?_)
  have hP : va_P D vwCl [(oa, ob 0 [.ref q_1, .null, .null, .null, iv 0, iv 0, iv 0, iv 0, iv 0, iv 0, iv 0, iv 0]), (q_1, ar cI 5 ((fun _ => 0)))] H := hP
  have hD : va_D A [(oa, ob 0 [.ref q_1, .null, .null, .null, iv 0, iv 0, iv 0, iv 0, iv 0, iv 0, iv 0, iv 0]), (q_1, ar cI 5 ((fun _ => 0)))] := hD
  refine lv_aload_n hx hb dX0_init_11 rfl (lv_at hl 0 rfl) ?_
  refine lv_iconst (v := zI 5) hx hb dX0_init_12 rfl ?_
  refine i_newa (n := 5) (N := 5) hx hb w3 hK hP hD hS hA rfl (Nat.le_of_ble_eq_true rfl) (Nat.le_of_ble_eq_true rfl) (Nat.le_of_ble_eq_true rfl) dX0_init_13 (fun q_2 H hP hD hS => ?_)
  have hP : va_P D vwCl [(oa, ob 0 [.ref q_1, .null, .null, .null, iv 0, iv 0, iv 0, iv 0, iv 0, iv 0, iv 0, iv 0]), (q_1, ar cI 5 ((fun _ => 0))), (q_2, ar cI 5 ((fun _ => 0)))] H := hP
  have hD : va_D A [(oa, ob 0 [.ref q_1, .null, .null, .null, iv 0, iv 0, iv 0, iv 0, iv 0, iv 0, iv 0, iv 0]), (q_1, ar cI 5 ((fun _ => 0))), (q_2, ar cI 5 ((fun _ => 0)))] := hD
  refine va_putF (D := D) (ci := 0) (v := .ref q_2) (ty := (.array .int)) (C := RX0) (T := TX0) (N := 12) hx hb hts inX0 tyX0 tyX0_ok nmX0 hown hK hP hD hS 0 rfl rfl 1 (by decide) w5 (fun _ h9 => h9) rfl hnm rfl (by decide +kernel) rfl rfl (Nat.le_of_ble_eq_true rfl) dX0_init_15 (fun H locs hP hD hS => ?_)
  have hP : va_P D vwCl [(oa, ob 0 [.ref q_1, .ref q_2, .null, .null, iv 0, iv 0, iv 0, iv 0, iv 0, iv 0, iv 0, iv 0]), (q_1, ar cI 5 ((fun _ => 0))), (q_2, ar cI 5 ((fun _ => 0)))] H := hP
  have hD : va_D A [(oa, ob 0 [.ref q_1, .ref q_2, .null, .null, iv 0, iv 0, iv 0, iv 0, iv 0, iv 0, iv 0, iv 0]), (q_1, ar cI 5 ((fun _ => 0))), (q_2, ar cI 5 ((fun _ => 0)))] := hD
  refine lv_aload_n hx hb dX0_init_18 rfl (lv_at hl 0 rfl) ?_
  refine lv_sipush (v := zI 3050) hx hb dX0_init_19 (by decide) ?_
  refine i_newa (n := 3050) (N := 3050) hx hb w3 hK hP hD hS hA rfl (Nat.le_of_ble_eq_true rfl) (Nat.le_of_ble_eq_true rfl) (Nat.le_of_ble_eq_true rfl) dX0_init_22 (fun q_3 H hP hD hS => ?_)
  have hP : va_P D vwCl [(oa, ob 0 [.ref q_1, .ref q_2, .null, .null, iv 0, iv 0, iv 0, iv 0, iv 0, iv 0, iv 0, iv 0]), (q_1, ar cI 5 ((fun _ => 0))), (q_2, ar cI 5 ((fun _ => 0))), (q_3, ar cI 3050 ((fun _ => 0)))] H := hP
  have hD : va_D A [(oa, ob 0 [.ref q_1, .ref q_2, .null, .null, iv 0, iv 0, iv 0, iv 0, iv 0, iv 0, iv 0, iv 0]), (q_1, ar cI 5 ((fun _ => 0))), (q_2, ar cI 5 ((fun _ => 0))), (q_3, ar cI 3050 ((fun _ => 0)))] := hD
  refine va_putF (D := D) (ci := 0) (v := .ref q_3) (ty := (.array .int)) (C := RX0) (T := TX0) (N := 12) hx hb hts inX0 tyX0 tyX0_ok nmX0 hown hK hP hD hS 0 rfl rfl 2 (by decide) w6 (fun _ h9 => h9) rfl hnm rfl (by decide +kernel) rfl rfl (Nat.le_of_ble_eq_true rfl) dX0_init_24 (fun H locs hP hD hS => ?_)
  have hP : va_P D vwCl [(oa, ob 0 [.ref q_1, .ref q_2, .ref q_3, .null, iv 0, iv 0, iv 0, iv 0, iv 0, iv 0, iv 0, iv 0]), (q_1, ar cI 5 ((fun _ => 0))), (q_2, ar cI 5 ((fun _ => 0))), (q_3, ar cI 3050 ((fun _ => 0)))] H := hP
  have hD : va_D A [(oa, ob 0 [.ref q_1, .ref q_2, .ref q_3, .null, iv 0, iv 0, iv 0, iv 0, iv 0, iv 0, iv 0, iv 0]), (q_1, ar cI 5 ((fun _ => 0))), (q_2, ar cI 5 ((fun _ => 0))), (q_3, ar cI 3050 ((fun _ => 0)))] := hD
  refine lv_aload_n hx hb dX0_init_27 rfl (lv_at hl 0 rfl) ?_
  refine lv_bipush (v := zI 6) hx hb dX0_init_28 (by decide) ?_
  refine i_newa (n := 6) (N := 6) hx hb w3 hK hP hD hS hA rfl (Nat.le_of_ble_eq_true rfl) (Nat.le_of_ble_eq_true rfl) (Nat.le_of_ble_eq_true rfl) dX0_init_30 (fun q_4 H hP hD hS => ?_)
  have hP : va_P D vwCl [(oa, ob 0 [.ref q_1, .ref q_2, .ref q_3, .null, iv 0, iv 0, iv 0, iv 0, iv 0, iv 0, iv 0, iv 0]), (q_1, ar cI 5 ((fun _ => 0))), (q_2, ar cI 5 ((fun _ => 0))), (q_3, ar cI 3050 ((fun _ => 0))), (q_4, ar cI 6 ((fun _ => 0)))] H := hP
  have hD : va_D A [(oa, ob 0 [.ref q_1, .ref q_2, .ref q_3, .null, iv 0, iv 0, iv 0, iv 0, iv 0, iv 0, iv 0, iv 0]), (q_1, ar cI 5 ((fun _ => 0))), (q_2, ar cI 5 ((fun _ => 0))), (q_3, ar cI 3050 ((fun _ => 0))), (q_4, ar cI 6 ((fun _ => 0)))] := hD
  refine va_putF (D := D) (ci := 0) (v := .ref q_4) (ty := (.array .int)) (C := RX0) (T := TX0) (N := 12) hx hb hts inX0 tyX0 tyX0_ok nmX0 hown hK hP hD hS 0 rfl rfl 3 (by decide) w7 (fun _ h9 => h9) rfl hnm rfl (by decide +kernel) rfl rfl (Nat.le_of_ble_eq_true rfl) dX0_init_32 (fun H locs hP hD hS => ?_)
  have hP : va_P D vwCl [(oa, ob 0 [.ref q_1, .ref q_2, .ref q_3, .ref q_4, iv 0, iv 0, iv 0, iv 0, iv 0, iv 0, iv 0, iv 0]), (q_1, ar cI 5 ((fun _ => 0))), (q_2, ar cI 5 ((fun _ => 0))), (q_3, ar cI 3050 ((fun _ => 0))), (q_4, ar cI 6 ((fun _ => 0)))] H := hP
  have hD : va_D A [(oa, ob 0 [.ref q_1, .ref q_2, .ref q_3, .ref q_4, iv 0, iv 0, iv 0, iv 0, iv 0, iv 0, iv 0, iv 0]), (q_1, ar cI 5 ((fun _ => 0))), (q_2, ar cI 5 ((fun _ => 0))), (q_3, ar cI 3050 ((fun _ => 0))), (q_4, ar cI 6 ((fun _ => 0)))] := hD
  subst hQ
  exact r_Mv hx hb hr hlocks dX0_init_35 hS (hP.sub (ws' := [(oa, ob 0 [.ref q_1, .ref q_2, .ref q_3, .ref q_4, iv 0, iv 0, iv 0, iv 0, iv 0, iv 0, iv 0, iv 0]), (q_1, ar cI 5 ((fun _ => 0))), (q_2, ar cI 5 ((fun _ => 0))), (q_3, ar cI 3050 ((fun _ => 0))), (q_4, ar cI 6 ((fun _ => 0)))]) [0, 1, 2, 3, 4] rfl) (hD.sub (ws' := [(oa, ob 0 [.ref q_1, .ref q_2, .ref q_3, .ref q_4, iv 0, iv 0, iv 0, iv 0, iv 0, iv 0, iv 0, iv 0]), (q_1, ar cI 5 ((fun _ => 0))), (q_2, ar cI 5 ((fun _ => 0))), (q_3, ar cI 3050 ((fun _ => 0))), (q_4, ar cI 6 ((fun _ => 0)))]) [0, 1, 2, 3, 4] (by decide) rfl) (⟨q_1, q_2, q_3, q_4, rfl, rfl⟩) (Nat.le_of_ble_eq_true rfl) (Nat.le_of_ble_eq_true rfl)

abbrev rm_X0_placeOf : Room := { frames := 0, cells := 0, slots := 0, locals := 0 }
set_option maxHeartbeats 4000000 in
set_option maxRecDepth 100000 in
/-- where a worth lies -/
theorem mt_X0_placeOf (l : Launch) (D : va_G) (cI cS cJ : ClassId) (wk : Int) (sp : Int) (lf : Int)  : cP l yX0_placeOf wsX0_placeOf rm_X0_placeOf [iv wk, iv sp, iv lf] D (tyL cI cS cJ) [] (zI ((wk * 5 + sp) * 61 + lf)) := by
  refine en_P (cc := cX0_placeOf) (maxL := 3) (ret := (some .int)) (by decide) rfl (Nat.le_of_ble_eq_true rfl) ?_
  intro p e s m args below meth c ls hX hE hP hK hl Q hQ
  obtain ⟨hx, hb, hr, hml, hts, hown, hlocks, hnm⟩ := hX
  have hown : s.vm.findClass RX0 = some m.cls := hown
  have hl : lv_has ls 3 [(0, iv wk), (1, iv sp), (2, iv lf)] := hl
  refine lv_iload_n hx hb dX0_placeOf_0 rfl (lv_at hl 0 rfl) ?_
  refine lv_iconst (v := zI 5) hx hb dX0_placeOf_1 rfl ?_
  refine i_imul hx hb dX0_placeOf_2 ?_
  refine lv_iload_n hx hb dX0_placeOf_3 rfl (lv_at hl 1 rfl) ?_
  refine i_iadd hx hb dX0_placeOf_4 ?_
  refine lv_bipush (v := zI 61) hx hb dX0_placeOf_5 (by decide) ?_
  refine i_imul hx hb dX0_placeOf_7 ?_
  refine lv_iload_n hx hb dX0_placeOf_8 rfl (lv_at hl 2 rfl) ?_
  refine i_iadd hx hb dX0_placeOf_9 ?_
  subst hQ
  exact r_P hx hb hr hlocks (by rfl) dX0_placeOf_10 (by first | rfl | (congr 1; omega))

abbrev rm_X0_worthFrom : Room := { frames := 1, cells := 0, slots := 0, locals := 22 }
set_option maxHeartbeats 4000000 in
set_option maxRecDepth 100000 in
/-- what is still to be had -/
theorem mt_X0_worthFrom (l : Launch) (D : va_G) (cI cS cJ : ClassId) (oa : Nat) (op : Nat) (od : Nat) (ow : Nat) (ol : Nat) (pr : Int → Int) (sd : Int → Int) (wo : Int → Int) (la : Int → Int) (fw : Int) (fr : Int) (ew : Int) (gp : Int) (rm : Int) (os : Int) (ok : Int) (ml : Int) (wk : Int) (sp : Int) (lf : Int) (lo : Int) (hB : PB pr sd fw fr ew gp rm os ok) (hm6 : 0 ≤ ml ∧ ml ≤ 60) (hG : GW pr sd gp rm ml ew os ok wo lo) (hwk : lo ≤ wk ∧ 0 ≤ wk ∧ wk ≤ ew) (hsp : os ≤ sp ∧ sp < 5) (hlf : 0 ≤ lf ∧ lf ≤ ok) : cP l yX0_worthFrom wsX0_worthFrom rm_X0_worthFrom [.ref oa, iv wk, iv sp, iv lf] D (tyL cI cS cJ) [(oa, ob 0 [.ref op, .ref od, .ref ow, .ref ol, iv fw, iv fr, iv ew, iv gp, iv rm, iv os, iv ok, iv ml]), (op, ar cI 5 pr), (od, ar cI 5 sd), (ow, ar cI 3050 wo), (ol, ar cI 6 la)] (zI (pv pr sd gp rm ml (ew - wk).toNat sp 0 lf)) := by
  refine en_P (cc := cX0_worthFrom) (maxL := 4) (ret := (some .int)) (by decide) rfl (Nat.le_of_ble_eq_true rfl) ?_
  intro p e s m args below meth c ls hX hE hP hK hl Q hQ
  obtain ⟨hx, hb, hr, hml, hts, hown, hlocks, hnm⟩ := hX
  have hown : s.vm.findClass RX0 = some m.cls := hown
  have hl : lv_has ls 4 [(0, .ref oa), (1, iv wk), (2, iv sp), (3, iv lf)] := hl
  have inX0 : ∀ w ∈ u_ws RX0 TX0 12, w ∈ wsX0_worthFrom := by decide +kernel
  have w0 : (Cond.fieldLink RX0 46 RX0 "endWeek" "I").before args s = true := hts _ (by decide +kernel)
  have w1 : (Cond.fieldLink RX0 94 RX0 "mostLeft" "I").before args s = true := hts _ (by decide +kernel)
  have w2 : (Cond.fieldLink RX0 56 RX0 "remnant" "I").before args s = true := hts _ (by decide +kernel)
  have w3 : (Cond.fieldLink RX0 18 RX0 "worths" "[I").before args s = true := hts _ (by decide +kernel)
  obtain ⟨hfw, hfr, hgp, hrm, hos, hok, hpr, hsd⟩ := id hB
  have hd0 : ∀ j : Int, 0 ≤ j → j < 5 → 0 ≤ sd j := fun j a b => (hsd j a b).1
  have hp0 : ∀ j : Int, 0 ≤ j → j < 5 → 0 ≤ pr j := fun j a b => (hpr j a b).1
  refine lv_iload_n hx hb dX0_worthFrom_0 rfl (lv_at hl 1 rfl) ?_
  refine lv_aload_n hx hb dX0_worthFrom_1 rfl (lv_at hl 0 rfl) ?_
  refine va_get (D := D) (ci := 0) (v := iv ew) (C := RX0) (T := TX0) (N := 12) hx hb hts inX0 hown hK hP 0 rfl rfl 6 (by decide) w0 (fun _ h9 => h9) rfl dX0_worthFrom_2 ?_
  refine i_icmp_ge (tgt := 20) hx hb ⟨by omega, by omega⟩ ⟨by omega, by omega⟩ dX0_worthFrom_5 (by decide) (fun c_1 => ?_) (fun c_1 => ?_)
  · skip
    refine lv_iload_n hx hb dX0_worthFrom_20 rfl (lv_at hl 3 rfl) ?_
    refine lv_aload_n hx hb dX0_worthFrom_21 rfl (lv_at hl 0 rfl) ?_
    refine va_get (D := D) (ci := 0) (v := iv ml) (C := RX0) (T := TX0) (N := 12) hx hb hts inX0 hown hK hP 0 rfl rfl 11 (by decide) w1 (fun _ h9 => h9) rfl dX0_worthFrom_22 ?_
    refine i_icmp_le (tgt := 32) hx hb ⟨by omega, by omega⟩ ⟨by omega, by omega⟩ dX0_worthFrom_25 (by decide) (fun c_2 => ?_) (fun c_2 => ?_)
    · skip
      refine lv_iload_n hx hb dX0_worthFrom_32 rfl (lv_at hl 3 rfl) ?_
      refine lv_aload_n hx hb dX0_worthFrom_33 rfl (lv_at hl 0 rfl) ?_
      refine va_get (D := D) (ci := 0) (v := iv rm) (C := RX0) (T := TX0) (N := 12) hx hb hts inX0 hown hK hP 0 rfl rfl 8 (by decide) w2 (fun _ h9 => h9) rfl dX0_worthFrom_34 ?_
      refine i_imul hx hb dX0_worthFrom_37 ?_
      subst hQ
      exact r_P hx hb hr hlocks (by rfl) dX0_worthFrom_38 (by rw [show (ew - wk).toNat = 0 by omega]; first | exact congrArg zI (if_neg (by omega)).symm | exact congrArg zI (if_pos (by omega)).symm)
    · skip
      refine lv_iconst (v := zI (-1)) hx hb dX0_worthFrom_28 rfl ?_
      refine lv_goto (tgt := 38) hx hb dX0_worthFrom_29 (by decide) ?_
      subst hQ
      exact r_P hx hb hr hlocks (by rfl) dX0_worthFrom_38 (by rw [show (ew - wk).toNat = 0 by omega]; first | exact congrArg zI (if_neg (by omega)).symm | exact congrArg zI (if_pos (by omega)).symm)
  · skip
    refine lv_aload_n hx hb dX0_worthFrom_8 rfl (lv_at hl 0 rfl) ?_
    refine va_get (D := D) (ci := 0) (v := .ref ow) (C := RX0) (T := TX0) (N := 12) hx hb hts inX0 hown hK hP 0 rfl rfl 2 (by decide) w3 (fun _ h9 => h9) rfl dX0_worthFrom_9 ?_
    refine lv_iload_n hx hb dX0_worthFrom_12 rfl (lv_at hl 1 rfl) ?_
    refine lv_iload_n hx hb dX0_worthFrom_13 rfl (lv_at hl 2 rfl) ?_
    refine lv_iload_n hx hb dX0_worthFrom_14 rfl (lv_at hl 3 rfl) ?_
    refine ms_P (va_runS (As := [iv wk, iv sp, iv lf]) (rest := [.ref ow]) ⟨hx, hb, hml, hown, hts⟩ (mt_X0_placeOf l D cI cS cJ wk sp lf) (va_cwS 3 hts gX0_worthFrom_X0_placeOf rfl rfl rfl (by decide +kernel) ⟨Nat.le_of_ble_eq_true rfl, Nat.le_of_ble_eq_true rfl⟩) (pcP_S hE hK (hP.sub (ws' := []) [] rfl)) rfl rfl hl.1 rfl (lv_room (Nat.le_of_ble_eq_true rfl)) dX0_worthFrom_15 ⟨Nat.le_of_ble_eq_true rfl, Nat.le_of_ble_eq_true rfl⟩) ?_
    refine i_iald hx hb hK hP 3 0 rfl rfl (by omega) (by omega) (by decide) dX0_worthFrom_18 ?_
    subst hQ
    exact r_P hx hb hr hlocks (by rfl) dX0_worthFrom_19 (congrArg zI (hG wk sp lf hwk.1 (by omega) hsp.1 hsp.2 hlf.1 hlf.2))

abbrev rm_X0_worthOfKeeping : Room := { frames := 2, cells := 0, slots := 0, locals := 45 }
set_option maxHeartbeats 4000000 in
set_option maxRecDepth 100000 in
/-- a step is kept for some weeks -/
theorem mt_X0_worthOfKeeping (l : Launch) (D : va_G) (cI cS cJ : ClassId) (oa : Nat) (op : Nat) (od : Nat) (ow : Nat) (ol : Nat) (pr : Int → Int) (sd : Int → Int) (wo : Int → Int) (la : Int → Int) (fw : Int) (fr : Int) (ew : Int) (gp : Int) (rm : Int) (os : Int) (ok : Int) (ml : Int) (wk : Int) (sp : Int) (wt : Int) (lf : Int) (lo : Int) (hB : PB pr sd fw fr ew gp rm os ok) (hm6 : 0 ≤ ml ∧ ml ≤ 60) (hG : GW pr sd gp rm ml ew os ok wo lo) (hwk : 0 ≤ wk ∧ wk ≤ ew) (hwt : 0 ≤ wt ∧ wt ≤ 100 ∧ lo ≤ wk + min wt (ew - wk)) (hsp : os ≤ sp ∧ sp < 5) (hlf : 0 ≤ lf ∧ lf ≤ ok) : cP l yX0_worthOfKeeping wsX0_worthOfKeeping rm_X0_worthOfKeeping [.ref oa, iv wk, iv sp, iv wt, iv lf] D (tyL cI cS cJ) [(oa, ob 0 [.ref op, .ref od, .ref ow, .ref ol, iv fw, iv fr, iv ew, iv gp, iv rm, iv os, iv ok, iv ml]), (op, ar cI 5 pr), (od, ar cI 5 sd), (ow, ar cI 3050 wo), (ol, ar cI 6 la)] (zI (pv pr sd gp rm ml (ew - wk).toNat sp wt lf)) := by
  refine en_P (cc := cX0_worthOfKeeping) (maxL := 8) (ret := (some .int)) (by decide) rfl (Nat.le_of_ble_eq_true rfl) ?_
  intro p e s m args below meth c ls hX hE hP hK hl Q hQ
  obtain ⟨hx, hb, hr, hml, hts, hown, hlocks, hnm⟩ := hX
  have hown : s.vm.findClass RX0 = some m.cls := hown
  have hl : lv_has ls 8 [(0, .ref oa), (1, iv wk), (2, iv sp), (3, iv wt), (4, iv lf)] := hl
  have inX0 : ∀ w ∈ u_ws RX0 TX0 12, w ∈ wsX0_worthOfKeeping := by decide +kernel
  have w0 : (Cond.fieldLink RX0 46 RX0 "endWeek" "I").before args s = true := hts _ (by decide +kernel)
  have w1 : (Cond.methodLink RX0 61 Lib.Math.min.name).before args s = true := hts _ (by decide +kernel)
  have w2 : (Cond.static Lib.Math.min.name).before args s = true := hts _ (by decide +kernel)
  have w3 : (Cond.initialized "java/lang/Math").before args s = true := hts _ (by decide +kernel)
  have w4 : (Cond.code Lib.Math.min.name Lib.Math.min.code 2 (some .int)).before args s = true := hts _ (by decide +kernel)
  have w5 : (Cond.fieldLink RX0 15 RX0 "demands" "[I").before args s = true := hts _ (by decide +kernel)
  have w6 : (Cond.fieldLink RX0 9 RX0 "prices" "[I").before args s = true := hts _ (by decide +kernel)
  obtain ⟨hfw, hfr, hgp, hrm, hos, hok, hpr, hsd⟩ := id hB
  have hd0 : ∀ j : Int, 0 ≤ j → j < 5 → 0 ≤ sd j := fun j a b => (hsd j a b).1
  have hp0 : ∀ j : Int, 0 ≤ j → j < 5 → 0 ≤ pr j := fun j a b => (hpr j a b).1
  refine lv_iload_n hx hb dX0_worthOfKeeping_0 rfl (lv_at hl 3 rfl) ?_
  refine lv_aload_n hx hb dX0_worthOfKeeping_1 rfl (lv_at hl 0 rfl) ?_
  refine va_get (D := D) (ci := 0) (v := iv ew) (C := RX0) (T := TX0) (N := 12) hx hb hts inX0 hown hK hP 0 rfl rfl 6 (by decide) w0 (fun _ h9 => h9) rfl dX0_worthOfKeeping_2 ?_
  refine lv_iload_n hx hb dX0_worthOfKeeping_5 rfl (lv_at hl 1 rfl) ?_
  refine i_isub hx hb dX0_worthOfKeeping_6 ?_
  refine i_min hx hb (hml.trans hl.1.symm) hown w1 w2 w3 w4 ⟨Nat.le_of_ble_eq_true rfl, Nat.le_of_ble_eq_true rfl, Nat.le_of_ble_eq_true rfl, Nat.le_of_ble_eq_true rfl⟩ (Nat.le_of_ble_eq_true rfl) ⟨by omega, by omega⟩ ⟨by omega, by omega⟩ dX0_worthOfKeeping_7 ?_
  refine i_name (fun kp hkp => ?_)
  have hsd1 := hsd sp (by omega) (by omega)
  have hpr1 := hpr sp (by omega) (by omega)
  have hkd0 : 0 ≤ kp * sd sp := Int.mul_nonneg (by omega) hsd1.1
  have hkd1 : kp * sd sp ≤ 10 * 30 := Int.mul_le_mul (by omega) hsd1.2 hsd1.1 (by decide)
  refine lv_istore (lv' := [(5, iv kp), (0, .ref oa), (1, iv wk), (2, iv sp), (3, iv wt), (4, iv lf)]) hx hb dX0_worthOfKeeping_10 hl (by decide) rfl (fun ls hl => ?_)
  refine lv_iload hx hb dX0_worthOfKeeping_12 (lv_at hl 5 rfl) ?_
  refine lv_iload hx hb dX0_worthOfKeeping_14 (lv_at hl 0 rfl) ?_
  refine lv_aload_n hx hb dX0_worthOfKeeping_16 rfl (lv_at hl 1 rfl) ?_
  refine va_get (D := D) (ci := 0) (v := .ref od) (C := RX0) (T := TX0) (N := 12) hx hb hts inX0 hown hK hP 0 rfl rfl 1 (by decide) w5 (fun _ h9 => h9) rfl dX0_worthOfKeeping_17 ?_
  refine lv_iload_n hx hb dX0_worthOfKeeping_20 rfl (lv_at hl 3 rfl) ?_
  refine i_iald hx hb hK hP 2 0 rfl rfl (by omega) (by omega) (by decide) dX0_worthOfKeeping_21 ?_
  refine i_imul hx hb dX0_worthOfKeeping_22 ?_
  refine i_min hx hb (hml.trans hl.1.symm) hown w1 w2 w3 w4 ⟨Nat.le_of_ble_eq_true rfl, Nat.le_of_ble_eq_true rfl, Nat.le_of_ble_eq_true rfl, Nat.le_of_ble_eq_true rfl⟩ (Nat.le_of_ble_eq_true rfl) ⟨by omega, by omega⟩ ⟨by omega, by omega⟩ dX0_worthOfKeeping_23 ?_
  refine i_name (fun sl hsl => ?_)
  refine lv_istore (lv' := [(6, iv sl), (5, iv kp), (0, .ref oa), (1, iv wk), (2, iv sp), (3, iv wt), (4, iv lf)]) hx hb dX0_worthOfKeeping_26 hl (by decide) rfl (fun ls hl => ?_)
  refine lv_aload_n hx hb dX0_worthOfKeeping_28 rfl (lv_at hl 2 rfl) ?_
  refine lv_iload_n hx hb dX0_worthOfKeeping_29 rfl (lv_at hl 3 rfl) ?_
  refine lv_iload hx hb dX0_worthOfKeeping_30 (lv_at hl 1 rfl) ?_
  refine i_iadd hx hb dX0_worthOfKeeping_32 ?_
  refine lv_iload_n hx hb dX0_worthOfKeeping_33 rfl (lv_at hl 4 rfl) ?_
  refine lv_iload hx hb dX0_worthOfKeeping_34 (lv_at hl 6 rfl) ?_
  refine lv_iload hx hb dX0_worthOfKeeping_36 (lv_at hl 0 rfl) ?_
  refine i_isub hx hb dX0_worthOfKeeping_38 ?_
  refine ms_P (va_runV (As := [iv (wk + kp), iv sp, iv (lf - sl)]) (rest := []) ⟨hx, hb, hml, hown, hts⟩ (mt_X0_worthFrom l D cI cS cJ oa op od ow ol pr sd wo la fw fr ew gp rm os ok ml (wk + kp) sp (lf - sl) lo (hB) (hm6) (hG) (by omega) (by omega) (by omega)) (cwV 3 hts gX0_worthOfKeeping_X0_worthFrom rfl rfl rfl (by decide +kernel) ⟨Nat.le_of_ble_eq_true rfl, Nat.le_of_ble_eq_true rfl⟩) (pc_V (ci := 0) (q0 := 0) hK (hP.sub (ws' := [(oa, ob 0 [.ref op, .ref od, .ref ow, .ref ol, iv fw, iv fr, iv ew, iv gp, iv rm, iv os, iv ok, iv ml]), (op, ar cI 5 pr), (od, ar cI 5 sd), (ow, ar cI 3050 wo), (ol, ar cI 6 la)]) [0, 1, 2, 3, 4] rfl) rfl rfl (pcP_S hE hK (hP.sub (ws' := [(oa, ob 0 [.ref op, .ref od, .ref ow, .ref ol, iv fw, iv fr, iv ew, iv gp, iv rm, iv os, iv ok, iv ml]), (op, ar cI 5 pr), (od, ar cI 5 sd), (ow, ar cI 3050 wo), (ol, ar cI 6 la)]) [0, 1, 2, 3, 4] rfl))) rfl rfl hl.1 rfl (lv_room (Nat.le_of_ble_eq_true rfl)) dX0_worthOfKeeping_39 ⟨Nat.le_of_ble_eq_true rfl, Nat.le_of_ble_eq_true rfl⟩) ?_
  refine i_name (fun rs hrs => ?_)
  have hr1 := pv_ge (g := gp) (ml := ml) hd0 hp0 hrm.1 (ew - (wk + kp)).toNat sp 0 (lf - sl) (by omega)
  have hr2 := pv_le (g := gp) (ml := ml) hd0 hpr hrm.2 (ew - (wk + kp)).toNat sp 0 (lf - sl) (by omega) (by omega)
  have hkeep := pv_keep (pr := pr) (d := sd) (g := gp) (r := rm) (ml := ml) hd0 hp0 hrm.1 (b := sp) (by omega) (by omega) kp.toNat (ew - wk).toNat wt lf hlf.1 (by omega)
  rw [show ((kp.toNat : Nat) : Int) = kp by omega, show (ew - wk).toNat - kp.toNat = (ew - (wk + kp)).toNat by omega, ← hsl, ← hrs] at hkeep
  unfold add1 at hkeep
  refine lv_istore (lv' := [(7, iv rs), (6, iv sl), (5, iv kp), (0, .ref oa), (1, iv wk), (2, iv sp), (3, iv wt), (4, iv lf)]) hx hb dX0_worthOfKeeping_42 hl (by decide) rfl (fun ls hl => ?_)
  refine lv_iload hx hb dX0_worthOfKeeping_44 (lv_at hl 0 rfl) ?_
  refine lv_iconst (v := zI (-1)) hx hb dX0_worthOfKeeping_46 rfl ?_
  refine i_icmp_ne (tgt := 54) hx hb ⟨by omega, by omega⟩ ⟨by decide, by decide⟩ dX0_worthOfKeeping_47 (by decide) (fun c_1 => ?_) (fun c_1 => ?_)
  · skip
    refine lv_iload hx hb dX0_worthOfKeeping_54 (lv_at hl 1 rfl) ?_
    refine lv_aload_n hx hb dX0_worthOfKeeping_56 rfl (lv_at hl 3 rfl) ?_
    refine va_get (D := D) (ci := 0) (v := .ref op) (C := RX0) (T := TX0) (N := 12) hx hb hts inX0 hown hK hP 0 rfl rfl 0 (by decide) w6 (fun _ h9 => h9) rfl dX0_worthOfKeeping_57 ?_
    refine lv_iload_n hx hb dX0_worthOfKeeping_60 rfl (lv_at hl 5 rfl) ?_
    refine i_iald hx hb hK hP 1 0 rfl rfl (by omega) (by omega) (by decide) dX0_worthOfKeeping_61 ?_
    refine i_imul hx hb dX0_worthOfKeeping_62 ?_
    refine lv_iload hx hb dX0_worthOfKeeping_63 (lv_at hl 0 rfl) ?_
    refine i_iadd hx hb dX0_worthOfKeeping_65 ?_
    subst hQ
    exact r_P hx hb hr hlocks (by rfl) dX0_worthOfKeeping_66 (by rw [hkeep]; first | exact congrArg zI (if_pos (by omega)).symm | (rw [if_neg (by omega)]; congr 1; omega))
  · skip
    refine lv_iconst (v := zI (-1)) hx hb dX0_worthOfKeeping_50 rfl ?_
    refine lv_goto (tgt := 66) hx hb dX0_worthOfKeeping_51 (by decide) ?_
    subst hQ
    exact r_P hx hb hr hlocks (by rfl) dX0_worthOfKeeping_66 (by rw [hkeep]; first | exact congrArg zI (if_pos (by omega)).symm | (rw [if_neg (by omega)]; congr 1; omega))

abbrev rm_X0_worthOfTaking : Room := { frames := 3, cells := 0, slots := 0, locals := 72 }
set_option maxHeartbeats 4000000 in
set_option maxRecDepth 100000 in
/-- a step is taken -/
theorem mt_X0_worthOfTaking (l : Launch) (D : va_G) (cI cS cJ : ClassId) (oa : Nat) (op : Nat) (od : Nat) (ow : Nat) (ol : Nat) (pr : Int → Int) (sd : Int → Int) (wo : Int → Int) (la : Int → Int) (fw : Int) (fr : Int) (ew : Int) (gp : Int) (rm : Int) (os : Int) (ok : Int) (ml : Int) (wk : Int) (sp : Int) (nx : Int) (lf : Int) (hB : PB pr sd fw fr ew gp rm os ok) (hm6 : 0 ≤ ml ∧ ml ≤ 60) (hG : GW pr sd gp rm ml ew os ok wo (wk + 1)) (hwk : 0 ≤ wk ∧ wk < ew) (hsp : os ≤ sp ∧ sp < 5) (hnx : sp ≤ nx ∧ nx < 5) (hlf : 0 ≤ lf ∧ lf ≤ ok) : cP l yX0_worthOfTaking wsX0_worthOfTaking rm_X0_worthOfTaking [.ref oa, iv wk, iv sp, iv nx, iv lf] D (tyL cI cS cJ) [(oa, ob 0 [.ref op, .ref od, .ref ow, .ref ol, iv fw, iv fr, iv ew, iv gp, iv rm, iv os, iv ok, iv ml]), (op, ar cI 5 pr), (od, ar cI 5 sd), (ow, ar cI 3050 wo), (ol, ar cI 6 la)] (zI (cand (pv pr sd gp rm ml (ew - wk - 1).toNat) pr sd gp sp 0 lf nx)) := by
  refine en_P (cc := cX0_worthOfTaking) (maxL := 5) (ret := (some .int)) (by decide) rfl (Nat.le_of_ble_eq_true rfl) ?_
  intro p e s m args below meth c ls hX hE hP hK hl Q hQ
  obtain ⟨hx, hb, hr, hml, hts, hown, hlocks, hnm⟩ := hX
  have hown : s.vm.findClass RX0 = some m.cls := hown
  have hl : lv_has ls 5 [(0, .ref oa), (1, iv wk), (2, iv sp), (3, iv nx), (4, iv lf)] := hl
  have inX0 : ∀ w ∈ u_ws RX0 TX0 12, w ∈ wsX0_worthOfTaking := by decide +kernel
  have w0 : (Cond.fieldLink RX0 52 RX0 "gap" "I").before args s = true := hts _ (by decide +kernel)
  obtain ⟨hfw, hfr, hgp, hrm, hos, hok, hpr, hsd⟩ := id hB
  have hd0 : ∀ j : Int, 0 ≤ j → j < 5 → 0 ≤ sd j := fun j a b => (hsd j a b).1
  have hp0 : ∀ j : Int, 0 ≤ j → j < 5 → 0 ≤ pr j := fun j a b => (hpr j a b).1
  have htk := pv_take (pr := pr) (d := sd) (g := gp) (r := rm) (ml := ml) hd0 hp0 hrm.1 hgp.1 (ew - wk - 1).toNat (b := sp) (i := nx) (l := lf) (by omega) (by omega) (by omega) hlf.1
  rw [show (ew - wk - 1).toNat + 1 = (ew - wk).toNat by omega] at htk
  refine lv_aload_n hx hb dX0_worthOfTaking_0 rfl (lv_at hl 0 rfl) ?_
  refine lv_iload_n hx hb dX0_worthOfTaking_1 rfl (lv_at hl 1 rfl) ?_
  refine lv_iload_n hx hb dX0_worthOfTaking_2 rfl (lv_at hl 3 rfl) ?_
  refine lv_iload_n hx hb dX0_worthOfTaking_3 rfl (lv_at hl 3 rfl) ?_
  refine lv_iload_n hx hb dX0_worthOfTaking_4 rfl (lv_at hl 2 rfl) ?_
  refine i_icmp_le (tgt := 15) hx hb ⟨by omega, by omega⟩ ⟨by omega, by omega⟩ dX0_worthOfTaking_5 (by decide) (fun c_1 => ?_) (fun c_1 => ?_)
  · skip
    refine lv_iconst (v := zI 1) hx hb dX0_worthOfTaking_15 rfl ?_
    refine lv_iload hx hb dX0_worthOfTaking_16 (lv_at hl 4 rfl) ?_
    refine ms_P (va_runV (As := [iv wk, iv nx, iv 1, iv lf]) (rest := []) ⟨hx, hb, hml, hown, hts⟩ (mt_X0_worthOfKeeping l D cI cS cJ oa op od ow ol pr sd wo la fw fr ew gp rm os ok ml wk nx 1 lf (wk + 1) (hB) (hm6) (hG) (by omega) (by omega) (by omega) (by omega)) (cwV 4 hts gX0_worthOfTaking_X0_worthOfKeeping rfl rfl rfl (by decide +kernel) ⟨Nat.le_of_ble_eq_true rfl, Nat.le_of_ble_eq_true rfl⟩) (pc_V (ci := 0) (q0 := 0) hK (hP.sub (ws' := [(oa, ob 0 [.ref op, .ref od, .ref ow, .ref ol, iv fw, iv fr, iv ew, iv gp, iv rm, iv os, iv ok, iv ml]), (op, ar cI 5 pr), (od, ar cI 5 sd), (ow, ar cI 3050 wo), (ol, ar cI 6 la)]) [0, 1, 2, 3, 4] rfl) rfl rfl (pcP_S hE hK (hP.sub (ws' := [(oa, ob 0 [.ref op, .ref od, .ref ow, .ref ol, iv fw, iv fr, iv ew, iv gp, iv rm, iv os, iv ok, iv ml]), (op, ar cI 5 pr), (od, ar cI 5 sd), (ow, ar cI 3050 wo), (ol, ar cI 6 la)]) [0, 1, 2, 3, 4] rfl))) rfl rfl hl.1 rfl (lv_room (Nat.le_of_ble_eq_true rfl)) dX0_worthOfTaking_18 ⟨Nat.le_of_ble_eq_true rfl, Nat.le_of_ble_eq_true rfl⟩) ?_
    subst hQ
    exact r_P hx hb hr hlocks (by rfl) dX0_worthOfTaking_21 (by first | (rw [if_pos (by assumption)] at htk; rw [htk]) | (rw [if_neg (by assumption)] at htk; rw [htk]) | (rw [if_pos (by omega)] at htk; rw [htk]) | (rw [if_neg (by omega)] at htk; rw [htk]))
  · skip
    refine lv_aload_n hx hb dX0_worthOfTaking_8 rfl (lv_at hl 0 rfl) ?_
    refine va_get (D := D) (ci := 0) (v := iv gp) (C := RX0) (T := TX0) (N := 12) hx hb hts inX0 hown hK hP 0 rfl rfl 7 (by decide) w0 (fun _ h9 => h9) rfl dX0_worthOfTaking_9 ?_
    refine lv_goto (tgt := 16) hx hb dX0_worthOfTaking_12 (by decide) ?_
    refine lv_iload hx hb dX0_worthOfTaking_16 (lv_at hl 4 rfl) ?_
    refine ms_P (va_runV (As := [iv wk, iv nx, iv gp, iv lf]) (rest := []) ⟨hx, hb, hml, hown, hts⟩ (mt_X0_worthOfKeeping l D cI cS cJ oa op od ow ol pr sd wo la fw fr ew gp rm os ok ml wk nx gp lf (wk + 1) (hB) (hm6) (hG) (by omega) (by omega) (by omega) (by omega)) (cwV 4 hts gX0_worthOfTaking_X0_worthOfKeeping rfl rfl rfl (by decide +kernel) ⟨Nat.le_of_ble_eq_true rfl, Nat.le_of_ble_eq_true rfl⟩) (pc_V (ci := 0) (q0 := 0) hK (hP.sub (ws' := [(oa, ob 0 [.ref op, .ref od, .ref ow, .ref ol, iv fw, iv fr, iv ew, iv gp, iv rm, iv os, iv ok, iv ml]), (op, ar cI 5 pr), (od, ar cI 5 sd), (ow, ar cI 3050 wo), (ol, ar cI 6 la)]) [0, 1, 2, 3, 4] rfl) rfl rfl (pcP_S hE hK (hP.sub (ws' := [(oa, ob 0 [.ref op, .ref od, .ref ow, .ref ol, iv fw, iv fr, iv ew, iv gp, iv rm, iv os, iv ok, iv ml]), (op, ar cI 5 pr), (od, ar cI 5 sd), (ow, ar cI 3050 wo), (ol, ar cI 6 la)]) [0, 1, 2, 3, 4] rfl))) rfl rfl hl.1 rfl (lv_room (Nat.le_of_ble_eq_true rfl)) dX0_worthOfTaking_18 ⟨Nat.le_of_ble_eq_true rfl, Nat.le_of_ble_eq_true rfl⟩) ?_
    subst hQ
    exact r_P hx hb hr hlocks (by rfl) dX0_worthOfTaking_21 (by first | (rw [if_pos (by assumption)] at htk; rw [htk]) | (rw [if_neg (by assumption)] at htk; rw [htk]) | (rw [if_pos (by omega)] at htk; rw [htk]) | (rw [if_neg (by omega)] at htk; rw [htk]))

abbrev rm_X0_worthOfChoosing : Room := { frames := 4, cells := 0, slots := 0, locals := 96 }
set_option maxHeartbeats 4000000 in
set_option maxRecDepth 100000 in
/-- the best of all steps from one on -/
theorem mt_X0_worthOfChoosing (l : Launch) (D : va_G) (cI cS cJ : ClassId) (oa : Nat) (op : Nat) (od : Nat) (ow : Nat) (ol : Nat) (pr : Int → Int) (sd : Int → Int) (wo : Int → Int) (la : Int → Int) (fw : Int) (fr : Int) (ew : Int) (gp : Int) (rm : Int) (os : Int) (ok : Int) (ml : Int) (wk : Int) (sp : Int) (lf : Int) (hB : PB pr sd fw fr ew gp rm os ok) (hm6 : 0 ≤ ml ∧ ml ≤ 60) (hG : GW pr sd gp rm ml ew os ok wo (wk + 1)) (hwk : 0 ≤ wk ∧ wk < ew) (hsp : os ≤ sp ∧ sp < 5) (hlf : 0 ≤ lf ∧ lf ≤ ok) : cP l yX0_worthOfChoosing wsX0_worthOfChoosing rm_X0_worthOfChoosing [.ref oa, iv wk, iv sp, iv lf] D (tyL cI cS cJ) [(oa, ob 0 [.ref op, .ref od, .ref ow, .ref ol, iv fw, iv fr, iv ew, iv gp, iv rm, iv os, iv ok, iv ml]), (op, ar cI 5 pr), (od, ar cI 5 sd), (ow, ar cI 3050 wo), (ol, ar cI 6 la)] (zI (pv pr sd gp rm ml (ew - wk).toNat sp 0 lf)) := by
  refine en_P (cc := cX0_worthOfChoosing) (maxL := 6) (ret := (some .int)) (by decide) rfl (Nat.le_of_ble_eq_true rfl) ?_
  intro p e s m args below meth c ls hX hE hP hK hl Q hQ
  obtain ⟨hx, hb, hr, hml, hts, hown, hlocks, hnm⟩ := hX
  have hown : s.vm.findClass RX0 = some m.cls := hown
  have hl : lv_has ls 6 [(0, .ref oa), (1, iv wk), (2, iv sp), (3, iv lf)] := hl
  have w0 : (Cond.methodLink RX0 106 Lib.Math.max.name).before args s = true := hts _ (by decide +kernel)
  have w1 : (Cond.static Lib.Math.max.name).before args s = true := hts _ (by decide +kernel)
  have w2 : (Cond.initialized "java/lang/Math").before args s = true := hts _ (by decide +kernel)
  have w3 : (Cond.code Lib.Math.max.name Lib.Math.max.code 2 (some .int)).before args s = true := hts _ (by decide +kernel)
  obtain ⟨hfw, hfr, hgp, hrm, hos, hok, hpr, hsd⟩ := id hB
  have hd0 : ∀ j : Int, 0 ≤ j → j < 5 → 0 ≤ sd j := fun j a b => (hsd j a b).1
  have hp0 : ∀ j : Int, 0 ≤ j → j < 5 → 0 ≤ pr j := fun j a b => (hpr j a b).1
  refine lv_iconst (v := zI (-1)) hx hb dX0_worthOfChoosing_0 rfl ?_
  refine lv_istore (lv' := [(4, iv (-1)), (0, .ref oa), (1, iv wk), (2, iv sp), (3, iv lf)]) hx hb dX0_worthOfChoosing_1 hl (by decide) rfl (fun ls hl => ?_)
  refine lv_iload_n hx hb dX0_worthOfChoosing_3 rfl (lv_at hl 3 rfl) ?_
  refine lv_istore (lv' := [(5, iv sp), (4, iv (-1)), (0, .ref oa), (1, iv wk), (2, iv sp), (3, iv lf)]) hx hb dX0_worthOfChoosing_4 hl (by decide) rfl (fun ls hl => ?_)
  have J_6 : ∀ (n_6 : Nat) (nx : Int) (gr : Int) (hnx : sp ≤ nx ∧ nx ≤ 5) (hgr : gr = mxf (cand (pv pr sd gp rm ml (ew - wk - 1).toNat) pr sd gp sp 0 lf) sp (nx - sp).toNat) (hm_6 : ((5 - nx).toNat) < n_6) (ls : Array Slot) (hl : lv_has ls 6 [(0, .ref oa), (1, iv wk), (2, iv sp), (3, iv lf), (4, iv gr), (5, iv nx)]), W p l e rm_X0_worthOfChoosing s m args below meth c s.heap [] 0 0 Q (F0 m 6 ls []) := by
    intro n_6
    induction n_6 with
    | zero => intro nx gr hnx hgr hm_6 ls hl; exact absurd hm_6 (Nat.not_lt_zero _)
    | succ n_6 ih_6 =>
      intro nx gr hnx hgr hm_6 ls hl
      have hg0 : -1 ≤ gr := by rw [hgr]; exact mxf_ge _ _ _
      have hg1 : gr ≤ lf * 1000 := by rw [hgr]; exact mxf_le (by omega) _ (fun j hj => (cand_in (g := gp) (ml := ml) hd0 hpr hrm _ (by omega) (by omega) hlf.1).2)
      refine lv_iload hx hb dX0_worthOfChoosing_6 (lv_at hl 5 rfl) ?_
      refine lv_iconst (v := zI 5) hx hb dX0_worthOfChoosing_8 rfl ?_
      refine i_icmp_ge (tgt := 34) hx hb ⟨by omega, by omega⟩ ⟨by decide, by decide⟩ dX0_worthOfChoosing_9 (by decide) (fun c_1 => ?_) (fun c_1 => ?_)
      · skip
        refine lv_iload hx hb dX0_worthOfChoosing_34 (lv_at hl 4 rfl) ?_
        subst hQ
        exact r_P hx hb hr hlocks (by rfl) dX0_worthOfChoosing_36 (by rw [hgr, show nx = 5 by omega, show (ew - wk).toNat = (ew - wk - 1).toNat + 1 by omega]; rfl)
      · skip
        refine lv_iload hx hb dX0_worthOfChoosing_12 (lv_at hl 4 rfl) ?_
        refine lv_aload_n hx hb dX0_worthOfChoosing_14 rfl (lv_at hl 0 rfl) ?_
        refine lv_iload_n hx hb dX0_worthOfChoosing_15 rfl (lv_at hl 1 rfl) ?_
        refine lv_iload_n hx hb dX0_worthOfChoosing_16 rfl (lv_at hl 2 rfl) ?_
        refine lv_iload hx hb dX0_worthOfChoosing_17 (lv_at hl 5 rfl) ?_
        refine lv_iload_n hx hb dX0_worthOfChoosing_19 rfl (lv_at hl 3 rfl) ?_
        refine ms_P (va_runV (As := [iv wk, iv sp, iv nx, iv lf]) (rest := [iv gr]) ⟨hx, hb, hml, hown, hts⟩ (mt_X0_worthOfTaking l D cI cS cJ oa op od ow ol pr sd wo la fw fr ew gp rm os ok ml wk sp nx lf (hB) (hm6) (hG) (by omega) (by omega) (by omega) (by omega)) (cwV 4 hts gX0_worthOfChoosing_X0_worthOfTaking rfl rfl rfl (by decide +kernel) ⟨Nat.le_of_ble_eq_true rfl, Nat.le_of_ble_eq_true rfl⟩) (pc_V (ci := 0) (q0 := 0) hK (hP.sub (ws' := [(oa, ob 0 [.ref op, .ref od, .ref ow, .ref ol, iv fw, iv fr, iv ew, iv gp, iv rm, iv os, iv ok, iv ml]), (op, ar cI 5 pr), (od, ar cI 5 sd), (ow, ar cI 3050 wo), (ol, ar cI 6 la)]) [0, 1, 2, 3, 4] rfl) rfl rfl (pcP_S hE hK (hP.sub (ws' := [(oa, ob 0 [.ref op, .ref od, .ref ow, .ref ol, iv fw, iv fr, iv ew, iv gp, iv rm, iv os, iv ok, iv ml]), (op, ar cI 5 pr), (od, ar cI 5 sd), (ow, ar cI 3050 wo), (ol, ar cI 6 la)]) [0, 1, 2, 3, 4] rfl))) rfl rfl hl.1 rfl (lv_room (Nat.le_of_ble_eq_true rfl)) dX0_worthOfChoosing_20 ⟨Nat.le_of_ble_eq_true rfl, Nat.le_of_ble_eq_true rfl⟩) ?_
        have hcd := cand_in (g := gp) (ml := ml) (b := sp) (i := nx) (l := lf) (w := 0) hd0 hpr hrm (ew - wk - 1).toNat (by omega) (by omega) hlf.1
        refine i_max hx hb (hml.trans hl.1.symm) hown w0 w1 w2 w3 ⟨Nat.le_of_ble_eq_true rfl, Nat.le_of_ble_eq_true rfl, Nat.le_of_ble_eq_true rfl, Nat.le_of_ble_eq_true rfl⟩ (Nat.le_of_ble_eq_true rfl) ⟨by omega, by omega⟩ ⟨by omega, by omega⟩ dX0_worthOfChoosing_23 ?_
        refine lv_istore (lv' := [(4, iv (max gr (cand (pv pr sd gp rm ml (ew - wk - 1).toNat) pr sd gp sp 0 lf nx))), (0, .ref oa), (1, iv wk), (2, iv sp), (3, iv lf), (5, iv nx)]) hx hb dX0_worthOfChoosing_26 hl (by decide) rfl (fun ls hl => ?_)
        refine i_iinc (n := 1) (lv' := [(5, iv (nx + 1)), (4, iv (max gr (cand (pv pr sd gp rm ml (ew - wk - 1).toNat) pr sd gp sp 0 lf nx))), (0, .ref oa), (1, iv wk), (2, iv sp), (3, iv lf)]) hx hb dX0_worthOfChoosing_28 hl (k := 5) rfl (by decide) rfl (fun ls hl => ?_)
        refine lv_goto (tgt := 6) hx hb dX0_worthOfChoosing_31 (by decide) ?_
        exact ih_6 (nx + 1) (max gr (cand (pv pr sd gp rm ml (ew - wk - 1).toNat) pr sd gp sp 0 lf nx)) (by omega) (by rw [mxf_step hnx.1, ← hgr]) (by omega) ls (lv_sub hl [2, 3, 4, 5, 1, 0] rfl)
  exact J_6 _ sp (-1) (by omega) (by rw [show (sp - sp).toNat = 0 by omega]; rfl) (Nat.lt_succ_self _) ls (lv_sub hl [2, 3, 4, 5, 1, 0] rfl)

abbrev rm_X0_tellWorths : Room := { frames := 5, cells := 0, slots := 0, locals := 121 }
set_option maxHeartbeats 4000000 in
set_option maxRecDepth 100000 in
/-- the table is told from the last week back -/
theorem mt_X0_tellWorths (l : Launch) (D : va_G) (cI cS cJ : ClassId) (oa : Nat) (op : Nat) (od : Nat) (ow : Nat) (ol : Nat) (pr : Int → Int) (sd : Int → Int) (wo : Int → Int) (la : Int → Int) (fw : Int) (fr : Int) (ew : Int) (gp : Int) (rm : Int) (os : Int) (ok : Int) (ml : Int) (mn : Int) (hB : PB pr sd fw fr ew gp rm os ok) (hmn : 0 ≤ mn ∧ mn ≤ 60) : cM l yX0_tellWorths wsX0_tellWorths rm_X0_tellWorths [.ref oa, iv mn] D (tyL cI cS cJ) [(oa, ob 0 [.ref op, .ref od, .ref ow, .ref ol, iv fw, iv fr, iv ew, iv gp, iv rm, iv os, iv ok, iv ml]), (op, ar cI 5 pr), (od, ar cI 5 sd), (ow, ar cI 3050 wo), (ol, ar cI 6 la)] (fun r_ w_ => ∃ wo2 : Int → Int, (GW pr sd gp rm mn ew os ok wo2 fr) ∧ r_ = none ∧ w_ = [(oa, ob 0 [.ref op, .ref od, .ref ow, .ref ol, iv fw, iv fr, iv ew, iv gp, iv rm, iv os, iv ok, iv mn]), (op, ar cI 5 pr), (od, ar cI 5 sd), (ow, ar cI 3050 wo2), (ol, ar cI 6 la)]) 0 0 := by
  refine en_M (cc := cX0_tellWorths) (maxL := 5) (ret := none) (by decide) rfl (Nat.le_of_ble_eq_true rfl) ?_
  intro p e s m args below meth c ls A hX hE hP hK hD hS hA hl Q hQ
  obtain ⟨hx, hb, hr, hml, hts, hown, hlocks, hnm⟩ := hX
  have hown : s.vm.findClass RX0 = some m.cls := hown
  have hl : lv_has ls 5 [(0, .ref oa), (1, iv mn)] := hl
  have inX0 : ∀ w ∈ u_ws RX0 TX0 12, w ∈ wsX0_tellWorths := by decide +kernel
  have w0 : (Cond.fieldLink RX0 94 RX0 "mostLeft" "I").before args s = true := hts _ (by decide +kernel)
  have w1 : (Cond.fieldLink RX0 46 RX0 "endWeek" "I").before args s = true := hts _ (by decide +kernel)
  have w2 : (Cond.fieldLink RX0 66 RX0 "freeWeek" "I").before args s = true := hts _ (by decide +kernel)
  have w3 : (Cond.fieldLink RX0 72 RX0 "ownStep" "I").before args s = true := hts _ (by decide +kernel)
  have w4 : (Cond.fieldLink RX0 79 RX0 "ownStock" "I").before args s = true := hts _ (by decide +kernel)
  have w5 : (Cond.fieldLink RX0 18 RX0 "worths" "[I").before args s = true := hts _ (by decide +kernel)
  obtain ⟨hfw, hfr, hgp, hrm, hos, hok, hpr, hsd⟩ := id hB
  have hd0 : ∀ j : Int, 0 ≤ j → j < 5 → 0 ≤ sd j := fun j a b => (hsd j a b).1
  have hp0 : ∀ j : Int, 0 ≤ j → j < 5 → 0 ≤ pr j := fun j a b => (hpr j a b).1
  refine lv_aload_n hx hb dX0_tellWorths_0 rfl (lv_at hl 0 rfl) ?_
  refine lv_iload_n hx hb dX0_tellWorths_1 rfl (lv_at hl 1 rfl) ?_
  refine va_put (D := D) (ci := 0) (v := iv mn) (ty := .int) (C := RX0) (T := TX0) (N := 12) hx hb hts inX0 tyX0 tyX0_ok nmX0 hown hK hP hD hS 0 rfl rfl 11 (by decide) w0 (fun _ h9 => h9) rfl (by decide +kernel) rfl rfl (Nat.le_of_ble_eq_true rfl) dX0_tellWorths_2 (fun H locs hP hD hS => ?_)
  have hP : va_P D vwCl [(oa, ob 0 [.ref op, .ref od, .ref ow, .ref ol, iv fw, iv fr, iv ew, iv gp, iv rm, iv os, iv ok, iv mn]), (op, ar cI 5 pr), (od, ar cI 5 sd), (ow, ar cI 3050 wo), (ol, ar cI 6 la)] H := hP
  have hD : va_D A [(oa, ob 0 [.ref op, .ref od, .ref ow, .ref ol, iv fw, iv fr, iv ew, iv gp, iv rm, iv os, iv ok, iv mn]), (op, ar cI 5 pr), (od, ar cI 5 sd), (ow, ar cI 3050 wo), (ol, ar cI 6 la)] := hD
  refine lv_aload_n hx hb dX0_tellWorths_5 rfl (lv_at hl 0 rfl) ?_
  refine va_get (D := D) (ci := 0) (v := iv ew) (C := RX0) (T := TX0) (N := 12) hx hb hts inX0 hown hK hP 0 rfl rfl 6 (by decide) w1 (fun _ h9 => h9) rfl dX0_tellWorths_6 ?_
  refine lv_iconst (v := zI 1) hx hb dX0_tellWorths_9 rfl ?_
  refine i_isub hx hb dX0_tellWorths_10 ?_
  refine lv_istore_n (lv' := [(2, iv (ew - 1)), (0, .ref oa), (1, iv mn)]) hx hb dX0_tellWorths_11 rfl hl (by decide) rfl (fun ls hl => ?_)
  have J_12 : ∀ (n_12 : Nat) (wk : Int) (wo1 : Int → Int) (hwk : fr - 1 ≤ wk ∧ wk ≤ ew - 1) (hG : GW pr sd gp rm mn ew os ok wo1 (wk + 1)) (hm_12 : ((wk + 1 - fr).toNat) < n_12) (H : Heap) (locs : List Loc) (hP : va_P D vwCl [(oa, ob 0 [.ref op, .ref od, .ref ow, .ref ol, iv fw, iv fr, iv ew, iv gp, iv rm, iv os, iv ok, iv mn]), (op, ar cI 5 pr), (od, ar cI 5 sd), (ow, ar cI 3050 wo1), (ol, ar cI 6 la)] H) (hD : va_D A [(oa, ob 0 [.ref op, .ref od, .ref ow, .ref ol, iv fw, iv fr, iv ew, iv gp, iv rm, iv os, iv ok, iv mn]), (op, ar cI 5 pr), (od, ar cI 5 sd), (ow, ar cI 3050 wo1), (ol, ar cI 6 la)]) (hS : va_S A s.heap H locs) (ls : Array Slot) (hl : lv_has ls 5 [(0, .ref oa), (1, iv mn), (2, iv wk)]), W p l e rm_X0_tellWorths s m args below meth c H locs 0 0 Q (F0 m 12 ls []) := by
    intro n_12
    induction n_12 with
    | zero => intro wk wo1 hwk hG hm_12 H locs hP hD hS ls hl; exact absurd hm_12 (Nat.not_lt_zero _)
    | succ n_12 ih_12 =>
      intro wk wo1 hwk hG hm_12 H locs hP hD hS ls hl
      refine lv_iload_n hx hb dX0_tellWorths_12 rfl (lv_at hl 2 rfl) ?_
      refine lv_aload_n hx hb dX0_tellWorths_13 rfl (lv_at hl 0 rfl) ?_
      refine va_get (D := D) (ci := 0) (v := iv fr) (C := RX0) (T := TX0) (N := 12) hx hb hts inX0 hown hK hP 0 rfl rfl 5 (by decide) w2 (fun _ h9 => h9) rfl dX0_tellWorths_14 ?_
      refine i_icmp_lt (tgt := 80) hx hb ⟨by omega, by omega⟩ ⟨by omega, by omega⟩ dX0_tellWorths_17 (by decide) (fun c_1 => ?_) (fun c_1 => ?_)
      · skip
        subst hQ
        exact r_Mv hx hb hr hlocks dX0_tellWorths_80 hS (hP.sub (ws' := [(oa, ob 0 [.ref op, .ref od, .ref ow, .ref ol, iv fw, iv fr, iv ew, iv gp, iv rm, iv os, iv ok, iv mn]), (op, ar cI 5 pr), (od, ar cI 5 sd), (ow, ar cI 3050 wo1), (ol, ar cI 6 la)]) [0, 1, 2, 3, 4] rfl) (hD.sub (ws' := [(oa, ob 0 [.ref op, .ref od, .ref ow, .ref ol, iv fw, iv fr, iv ew, iv gp, iv rm, iv os, iv ok, iv mn]), (op, ar cI 5 pr), (od, ar cI 5 sd), (ow, ar cI 3050 wo1), (ol, ar cI 6 la)]) [0, 1, 2, 3, 4] (by decide) rfl) (⟨wo1, (hG.mono (by omega)), rfl, rfl⟩) (Nat.le_of_ble_eq_true rfl) (Nat.le_of_ble_eq_true rfl)
      · skip
        refine lv_aload_n hx hb dX0_tellWorths_20 rfl (lv_at hl 0 rfl) ?_
        refine va_get (D := D) (ci := 0) (v := iv os) (C := RX0) (T := TX0) (N := 12) hx hb hts inX0 hown hK hP 0 rfl rfl 9 (by decide) w3 (fun _ h9 => h9) rfl dX0_tellWorths_21 ?_
        refine lv_istore_n (lv' := [(3, iv os), (0, .ref oa), (1, iv mn), (2, iv wk)]) hx hb dX0_tellWorths_24 rfl hl (by decide) rfl (fun ls hl => ?_)
        have J_25 : ∀ (n_25 : Nat) (sp : Int) (wo1 : Int → Int) (hsp : os ≤ sp ∧ sp ≤ 5) (hG : GW pr sd gp rm mn ew os ok wo1 (wk + 1)) (hP1 : GP pr sd gp rm mn ew os ok wo1 wk sp 0) (hm_25 : ((5 - sp).toNat) < n_25) (H : Heap) (locs : List Loc) (hP : va_P D vwCl [(oa, ob 0 [.ref op, .ref od, .ref ow, .ref ol, iv fw, iv fr, iv ew, iv gp, iv rm, iv os, iv ok, iv mn]), (op, ar cI 5 pr), (od, ar cI 5 sd), (ow, ar cI 3050 wo1), (ol, ar cI 6 la)] H) (hD : va_D A [(oa, ob 0 [.ref op, .ref od, .ref ow, .ref ol, iv fw, iv fr, iv ew, iv gp, iv rm, iv os, iv ok, iv mn]), (op, ar cI 5 pr), (od, ar cI 5 sd), (ow, ar cI 3050 wo1), (ol, ar cI 6 la)]) (hS : va_S A s.heap H locs) (ls : Array Slot) (hl : lv_has ls 5 [(0, .ref oa), (1, iv mn), (2, iv wk), (3, iv sp)]), W p l e rm_X0_tellWorths s m args below meth c H locs 0 0 Q (F0 m 25 ls []) := by
          intro n_25
          induction n_25 with
          | zero => intro sp wo1 hsp hG hP1 hm_25 H locs hP hD hS ls hl; exact absurd hm_25 (Nat.not_lt_zero _)
          | succ n_25 ih_25 =>
            intro sp wo1 hsp hG hP1 hm_25 H locs hP hD hS ls hl
            refine lv_iload_n hx hb dX0_tellWorths_25 rfl (lv_at hl 3 rfl) ?_
            refine lv_iconst (v := zI 5) hx hb dX0_tellWorths_26 rfl ?_
            refine i_icmp_ge (tgt := 74) hx hb ⟨by omega, by omega⟩ ⟨by decide, by decide⟩ dX0_tellWorths_27 (by decide) (fun c_2 => ?_) (fun c_2 => ?_)
            · skip
              refine i_iinc (n := (-1)) (lv' := [(2, iv (wk + (-1))), (0, .ref oa), (1, iv mn), (3, iv sp)]) hx hb dX0_tellWorths_74 hl (k := 2) rfl (by decide) rfl (fun ls hl => ?_)
              refine lv_goto (tgt := 12) hx hb dX0_tellWorths_77 (by decide) ?_
              exact ih_12 (wk + (-1)) wo1 (by omega) (by rw [show wk + -1 + 1 = wk by omega]; exact hG.down hP1 (by omega)) (by omega) _ _ (hP.sub [0, 1, 2, 3, 4] rfl) (hD.sub [0, 1, 2, 3, 4] (by decide) rfl) hS ls (lv_sub hl [1, 2, 0] rfl)
            · skip
              refine lv_iconst (v := zI 0) hx hb dX0_tellWorths_30 rfl ?_
              refine lv_istore (lv' := [(4, iv 0), (0, .ref oa), (1, iv mn), (2, iv wk), (3, iv sp)]) hx hb dX0_tellWorths_31 hl (by decide) rfl (fun ls hl => ?_)
              have J_33 : ∀ (n_33 : Nat) (lf : Int) (wo1 : Int → Int) (hlf : 0 ≤ lf ∧ lf ≤ ok + 1) (hG : GW pr sd gp rm mn ew os ok wo1 (wk + 1)) (hP1 : GP pr sd gp rm mn ew os ok wo1 wk sp lf) (hm_33 : ((ok + 1 - lf).toNat) < n_33) (H : Heap) (locs : List Loc) (hP : va_P D vwCl [(oa, ob 0 [.ref op, .ref od, .ref ow, .ref ol, iv fw, iv fr, iv ew, iv gp, iv rm, iv os, iv ok, iv mn]), (op, ar cI 5 pr), (od, ar cI 5 sd), (ow, ar cI 3050 wo1), (ol, ar cI 6 la)] H) (hD : va_D A [(oa, ob 0 [.ref op, .ref od, .ref ow, .ref ol, iv fw, iv fr, iv ew, iv gp, iv rm, iv os, iv ok, iv mn]), (op, ar cI 5 pr), (od, ar cI 5 sd), (ow, ar cI 3050 wo1), (ol, ar cI 6 la)]) (hS : va_S A s.heap H locs) (ls : Array Slot) (hl : lv_has ls 5 [(0, .ref oa), (1, iv mn), (2, iv wk), (3, iv sp), (4, iv lf)]), W p l e rm_X0_tellWorths s m args below meth c H locs 0 0 Q (F0 m 33 ls []) := by
                intro n_33
                induction n_33 with
                | zero => intro lf wo1 hlf hG hP1 hm_33 H locs hP hD hS ls hl; exact absurd hm_33 (Nat.not_lt_zero _)
                | succ n_33 ih_33 =>
                  intro lf wo1 hlf hG hP1 hm_33 H locs hP hD hS ls hl
                  refine lv_iload hx hb dX0_tellWorths_33 (lv_at hl 4 rfl) ?_
                  refine lv_aload_n hx hb dX0_tellWorths_35 rfl (lv_at hl 0 rfl) ?_
                  refine va_get (D := D) (ci := 0) (v := iv ok) (C := RX0) (T := TX0) (N := 12) hx hb hts inX0 hown hK hP 0 rfl rfl 10 (by decide) w4 (fun _ h9 => h9) rfl dX0_tellWorths_36 ?_
                  refine i_icmp_gt (tgt := 68) hx hb ⟨by omega, by omega⟩ ⟨by omega, by omega⟩ dX0_tellWorths_39 (by decide) (fun c_3 => ?_) (fun c_3 => ?_)
                  · skip
                    refine i_iinc (n := 1) (lv' := [(3, iv (sp + 1)), (0, .ref oa), (1, iv mn), (2, iv wk), (4, iv lf)]) hx hb dX0_tellWorths_68 hl (k := 3) rfl (by decide) rfl (fun ls hl => ?_)
                    refine lv_goto (tgt := 25) hx hb dX0_tellWorths_71 (by decide) ?_
                    exact ih_25 (sp + 1) wo1 (by omega) (hG) (hP1.next (by omega)) (by omega) _ _ (hP.sub [0, 1, 2, 3, 4] rfl) (hD.sub [0, 1, 2, 3, 4] (by decide) rfl) hS ls (lv_sub hl [1, 2, 3, 0] rfl)
                  · skip
                    refine lv_aload_n hx hb dX0_tellWorths_42 rfl (lv_at hl 0 rfl) ?_
                    refine va_get (D := D) (ci := 0) (v := .ref ow) (C := RX0) (T := TX0) (N := 12) hx hb hts inX0 hown hK hP 0 rfl rfl 2 (by decide) w5 (fun _ h9 => h9) rfl dX0_tellWorths_43 ?_
                    refine lv_iload_n hx hb dX0_tellWorths_46 rfl (lv_at hl 2 rfl) ?_
                    refine lv_iload_n hx hb dX0_tellWorths_47 rfl (lv_at hl 3 rfl) ?_
                    refine lv_iload hx hb dX0_tellWorths_48 (lv_at hl 4 rfl) ?_
                    refine ms_P (va_runS (As := [iv wk, iv sp, iv lf]) (rest := [.ref ow]) ⟨hx, hb, hml, hown, hts⟩ (mt_X0_placeOf l D cI cS cJ wk sp lf) (va_cwS 3 hts gX0_tellWorths_X0_placeOf rfl rfl rfl (by decide +kernel) ⟨Nat.le_of_ble_eq_true rfl, Nat.le_of_ble_eq_true rfl⟩) (pcP_S hE hK (hP.sub (ws' := []) [] rfl)) rfl rfl hl.1 rfl (lv_room (Nat.le_of_ble_eq_true rfl)) dX0_tellWorths_50 ⟨Nat.le_of_ble_eq_true rfl, Nat.le_of_ble_eq_true rfl⟩) ?_
                    refine lv_aload_n hx hb dX0_tellWorths_53 rfl (lv_at hl 0 rfl) ?_
                    refine lv_iload_n hx hb dX0_tellWorths_54 rfl (lv_at hl 2 rfl) ?_
                    refine lv_iload_n hx hb dX0_tellWorths_55 rfl (lv_at hl 3 rfl) ?_
                    refine lv_iload hx hb dX0_tellWorths_56 (lv_at hl 4 rfl) ?_
                    refine ms_P (va_runV (As := [iv wk, iv sp, iv lf]) (rest := [iv ((wk * 5 + sp) * 61 + lf), .ref ow]) ⟨hx, hb, hml, hown, hts⟩ (mt_X0_worthOfChoosing l D cI cS cJ oa op od ow ol pr sd wo1 la fw fr ew gp rm os ok mn wk sp lf (hB) (hmn) (hG) (by omega) (by omega) (by omega)) (cwV 3 hts gX0_tellWorths_X0_worthOfChoosing rfl rfl rfl (by decide +kernel) ⟨Nat.le_of_ble_eq_true rfl, Nat.le_of_ble_eq_true rfl⟩) (pc_V (ci := 0) (q0 := 0) hK (hP.sub (ws' := [(oa, ob 0 [.ref op, .ref od, .ref ow, .ref ol, iv fw, iv fr, iv ew, iv gp, iv rm, iv os, iv ok, iv mn]), (op, ar cI 5 pr), (od, ar cI 5 sd), (ow, ar cI 3050 wo1), (ol, ar cI 6 la)]) [0, 1, 2, 3, 4] rfl) rfl rfl (pcP_S hE hK (hP.sub (ws' := [(oa, ob 0 [.ref op, .ref od, .ref ow, .ref ol, iv fw, iv fr, iv ew, iv gp, iv rm, iv os, iv ok, iv mn]), (op, ar cI 5 pr), (od, ar cI 5 sd), (ow, ar cI 3050 wo1), (ol, ar cI 6 la)]) [0, 1, 2, 3, 4] rfl))) rfl rfl hl.1 rfl (lv_room (Nat.le_of_ble_eq_true rfl)) dX0_tellWorths_58 ⟨Nat.le_of_ble_eq_true rfl, Nat.le_of_ble_eq_true rfl⟩) ?_
                    refine i_iast hx hb hK hP hD hS 3 0 rfl rfl (by omega) (by omega) (by decide) dX0_tellWorths_61 (fun H locs hP hD hS => ?_)
                    have hP : va_P D vwCl [(oa, ob 0 [.ref op, .ref od, .ref ow, .ref ol, iv fw, iv fr, iv ew, iv gp, iv rm, iv os, iv ok, iv mn]), (op, ar cI 5 pr), (od, ar cI 5 sd), (ow, ar cI 3050 (ui wo1 ((wk * 5 + sp) * 61 + lf) (pv pr sd gp rm mn (ew - wk).toNat sp 0 lf))), (ol, ar cI 6 la)] H := hP
                    have hD : va_D A [(oa, ob 0 [.ref op, .ref od, .ref ow, .ref ol, iv fw, iv fr, iv ew, iv gp, iv rm, iv os, iv ok, iv mn]), (op, ar cI 5 pr), (od, ar cI 5 sd), (ow, ar cI 3050 (ui wo1 ((wk * 5 + sp) * 61 + lf) (pv pr sd gp rm mn (ew - wk).toNat sp 0 lf))), (ol, ar cI 6 la)] := hD
                    refine i_iinc (n := 1) (lv' := [(4, iv (lf + 1)), (0, .ref oa), (1, iv mn), (2, iv wk), (3, iv sp)]) hx hb dX0_tellWorths_62 hl (k := 4) rfl (by decide) rfl (fun ls hl => ?_)
                    refine lv_goto (tgt := 33) hx hb dX0_tellWorths_65 (by decide) ?_
                    exact ih_33 (lf + 1) (ui wo1 ((wk * 5 + sp) * 61 + lf) (pv pr sd gp rm mn (ew - wk).toNat sp 0 lf)) (by omega) (hG.put hos.1 (by omega) (by omega) hlf.1 (by omega) hok.2) (hP1.put hos.1 (by omega) (by omega) hlf.1 (by omega) hok.2) (by omega) _ _ (hP.sub [0, 1, 2, 3, 4] rfl) (hD.sub [0, 1, 2, 3, 4] (by decide) rfl) hS ls (lv_sub hl [1, 2, 3, 4, 0] rfl)
              exact J_33 _ 0 wo1 (by omega) (hG) (hP1) (Nat.lt_succ_self _) _ _ (hP.sub [0, 1, 2, 3, 4] rfl) (hD.sub [0, 1, 2, 3, 4] (by decide) rfl) hS ls (lv_sub hl [1, 2, 3, 4, 0] rfl)
        exact J_25 _ os wo1 (by omega) (hG) (GP.zero) (Nat.lt_succ_self _) _ _ (hP.sub [0, 1, 2, 3, 4] rfl) (hD.sub [0, 1, 2, 3, 4] (by decide) rfl) hS ls (lv_sub hl [1, 2, 3, 0] rfl)
  exact J_12 _ (ew - 1) wo (by omega) (fun wk st lf q1 q2 => by omega) (Nat.lt_succ_self _) _ _ (hP.sub [0, 1, 2, 3, 4] rfl) (hD.sub [0, 1, 2, 3, 4] (by decide) rfl) hS ls (lv_sub hl [1, 2, 0] rfl)

abbrev rm_X0_greatestWorth : Room := { frames := 6, cells := 0, slots := 0, locals := 145 }
set_option maxHeartbeats 4000000 in
set_option maxRecDepth 100000 in
/-- the greatest worth of all plans that leave no more than some pieces -/
theorem mt_X0_greatestWorth (l : Launch) (D : va_G) (cI cS cJ : ClassId) (oa : Nat) (op : Nat) (od : Nat) (ow : Nat) (ol : Nat) (pr : Int → Int) (sd : Int → Int) (wo : Int → Int) (la : Int → Int) (fw : Int) (fr : Int) (ew : Int) (gp : Int) (rm : Int) (os : Int) (ok : Int) (ml : Int) (mn : Int) (hB : PB pr sd fw fr ew gp rm os ok) (hmn : 0 ≤ mn ∧ mn ≤ 60) : cM l yX0_greatestWorth wsX0_greatestWorth rm_X0_greatestWorth [.ref oa, iv mn] D (tyL cI cS cJ) [(oa, ob 0 [.ref op, .ref od, .ref ow, .ref ol, iv fw, iv fr, iv ew, iv gp, iv rm, iv os, iv ok, iv ml]), (op, ar cI 5 pr), (od, ar cI 5 sd), (ow, ar cI 3050 wo), (ol, ar cI 6 la)] (fun r_ w_ => ∃ wo2 : Int → Int, r_ = some (iv (pv pr sd gp rm mn (ew - fw).toNat os (fr - fw) ok)) ∧ w_ = [(oa, ob 0 [.ref op, .ref od, .ref ow, .ref ol, iv fw, iv fr, iv ew, iv gp, iv rm, iv os, iv ok, iv mn]), (op, ar cI 5 pr), (od, ar cI 5 sd), (ow, ar cI 3050 wo2), (ol, ar cI 6 la)]) 0 0 := by
  refine en_M (cc := cX0_greatestWorth) (maxL := 2) (ret := (some .int)) (by decide) rfl (Nat.le_of_ble_eq_true rfl) ?_
  intro p e s m args below meth c ls A hX hE hP hK hD hS hA hl Q hQ
  obtain ⟨hx, hb, hr, hml, hts, hown, hlocks, hnm⟩ := hX
  have hown : s.vm.findClass RX0 = some m.cls := hown
  have hl : lv_has ls 2 [(0, .ref oa), (1, iv mn)] := hl
  have inX0 : ∀ w ∈ u_ws RX0 TX0 12, w ∈ wsX0_greatestWorth := by decide +kernel
  have w0 : (Cond.fieldLink RX0 40 RX0 "firstWeek" "I").before args s = true := hts _ (by decide +kernel)
  have w1 : (Cond.fieldLink RX0 72 RX0 "ownStep" "I").before args s = true := hts _ (by decide +kernel)
  have w2 : (Cond.fieldLink RX0 66 RX0 "freeWeek" "I").before args s = true := hts _ (by decide +kernel)
  have w3 : (Cond.fieldLink RX0 79 RX0 "ownStock" "I").before args s = true := hts _ (by decide +kernel)
  obtain ⟨hfw, hfr, hgp, hrm, hos, hok, hpr, hsd⟩ := id hB
  have hd0 : ∀ j : Int, 0 ≤ j → j < 5 → 0 ≤ sd j := fun j a b => (hsd j a b).1
  have hp0 : ∀ j : Int, 0 ≤ j → j < 5 → 0 ≤ pr j := fun j a b => (hpr j a b).1
  refine lv_aload_n hx hb dX0_greatestWorth_0 rfl (lv_at hl 0 rfl) ?_
  refine lv_iload_n hx hb dX0_greatestWorth_1 rfl (lv_at hl 1 rfl) ?_
  refine ms_M (wc := [(oa, ob 0 [.ref op, .ref od, .ref ow, .ref ol, iv fw, iv fr, iv ew, iv gp, iv rm, iv os, iv ok, iv ml]), (op, ar cI 5 pr), (od, ar cI 5 sd), (ow, ar cI 3050 wo), (ol, ar cI 6 la)]) (wr := []) (va_runV (As := [iv mn]) (rest := []) ⟨hx, hb, hml, hown, hts⟩ ((mt_X0_tellWorths l D cI cS cJ oa op od ow ol pr sd wo la fw fr ew gp rm os ok ml mn (hB) (hmn)) s.heap.size) (cwV 1 hts gX0_greatestWorth_X0_tellWorths rfl rfl rfl (by decide +kernel) ⟨Nat.le_of_ble_eq_true rfl, Nat.le_of_ble_eq_true rfl⟩) (pc_V (ci := 0) (q0 := 0) hK (hP.sub (ws' := [(oa, ob 0 [.ref op, .ref od, .ref ow, .ref ol, iv fw, iv fr, iv ew, iv gp, iv rm, iv os, iv ok, iv ml]), (op, ar cI 5 pr), (od, ar cI 5 sd), (ow, ar cI 3050 wo), (ol, ar cI 6 la)]) [0, 1, 2, 3, 4] rfl) rfl rfl (pcM_S hE hK (hP.sub (ws' := [(oa, ob 0 [.ref op, .ref od, .ref ow, .ref ol, iv fw, iv fr, iv ew, iv gp, iv rm, iv os, iv ok, iv ml]), (op, ar cI 5 pr), (od, ar cI 5 sd), (ow, ar cI 3050 wo), (ol, ar cI 6 la)]) [0, 1, 2, 3, 4] rfl) (hD.sub (ws' := [(oa, ob 0 [.ref op, .ref od, .ref ow, .ref ol, iv fw, iv fr, iv ew, iv gp, iv rm, iv os, iv ok, iv ml]), (op, ar cI 5 pr), (od, ar cI 5 sd), (ow, ar cI 3050 wo), (ol, ar cI 6 la)]) [0, 1, 2, 3, 4] (by decide) rfl))) rfl rfl hl.1 rfl (lv_room (Nat.le_of_ble_eq_true rfl)) dX0_greatestWorth_2 ⟨Nat.le_of_ble_eq_true rfl, Nat.le_of_ble_eq_true rfl⟩) hP hD hS hA [0, 1, 2, 3, 4] [] rfl rfl (by decide) (by decide) (fun r_ w_ H locs hq_ hP hD hS => ?_)
  obtain ⟨wo2_1, hf_2, rfl, rfl⟩ := hq_
  have hP : va_P D vwCl [(oa, ob 0 [.ref op, .ref od, .ref ow, .ref ol, iv fw, iv fr, iv ew, iv gp, iv rm, iv os, iv ok, iv mn]), (op, ar cI 5 pr), (od, ar cI 5 sd), (ow, ar cI 3050 wo2_1), (ol, ar cI 6 la)] H := hP
  have hD : va_D A [(oa, ob 0 [.ref op, .ref od, .ref ow, .ref ol, iv fw, iv fr, iv ew, iv gp, iv rm, iv os, iv ok, iv mn]), (op, ar cI 5 pr), (od, ar cI 5 sd), (ow, ar cI 3050 wo2_1), (ol, ar cI 6 la)] := hD
  have hf_2 : GW pr sd gp rm mn ew os ok wo2_1 fr := hf_2
  have hG := hf_2
  refine lv_aload_n hx hb dX0_greatestWorth_5 rfl (lv_at hl 0 rfl) ?_
  refine lv_aload_n hx hb dX0_greatestWorth_6 rfl (lv_at hl 0 rfl) ?_
  refine va_get (D := D) (ci := 0) (v := iv fw) (C := RX0) (T := TX0) (N := 12) hx hb hts inX0 hown hK hP 0 rfl rfl 4 (by decide) w0 (fun _ h9 => h9) rfl dX0_greatestWorth_7 ?_
  refine lv_aload_n hx hb dX0_greatestWorth_10 rfl (lv_at hl 0 rfl) ?_
  refine va_get (D := D) (ci := 0) (v := iv os) (C := RX0) (T := TX0) (N := 12) hx hb hts inX0 hown hK hP 0 rfl rfl 9 (by decide) w1 (fun _ h9 => h9) rfl dX0_greatestWorth_11 ?_
  refine lv_aload_n hx hb dX0_greatestWorth_14 rfl (lv_at hl 0 rfl) ?_
  refine va_get (D := D) (ci := 0) (v := iv fr) (C := RX0) (T := TX0) (N := 12) hx hb hts inX0 hown hK hP 0 rfl rfl 5 (by decide) w2 (fun _ h9 => h9) rfl dX0_greatestWorth_15 ?_
  refine lv_aload_n hx hb dX0_greatestWorth_18 rfl (lv_at hl 0 rfl) ?_
  refine va_get (D := D) (ci := 0) (v := iv fw) (C := RX0) (T := TX0) (N := 12) hx hb hts inX0 hown hK hP 0 rfl rfl 4 (by decide) w0 (fun _ h9 => h9) rfl dX0_greatestWorth_19 ?_
  refine i_isub hx hb dX0_greatestWorth_22 ?_
  refine lv_aload_n hx hb dX0_greatestWorth_23 rfl (lv_at hl 0 rfl) ?_
  refine va_get (D := D) (ci := 0) (v := iv ok) (C := RX0) (T := TX0) (N := 12) hx hb hts inX0 hown hK hP 0 rfl rfl 10 (by decide) w3 (fun _ h9 => h9) rfl dX0_greatestWorth_24 ?_
  refine ms_P (va_runV (As := [iv fw, iv os, iv (fr - fw), iv ok]) (rest := []) ⟨hx, hb, hml, hown, hts⟩ (mt_X0_worthOfKeeping l D cI cS cJ oa op od ow ol pr sd wo2_1 la fw fr ew gp rm os ok mn fw os (fr - fw) ok fr (hB) (hmn) (hG) (by omega) (by omega) (by omega) (by omega)) (cwV 4 hts gX0_greatestWorth_X0_worthOfKeeping rfl rfl rfl (by decide +kernel) ⟨Nat.le_of_ble_eq_true rfl, Nat.le_of_ble_eq_true rfl⟩) (pc_V (ci := 0) (q0 := 0) hK (hP.sub (ws' := [(oa, ob 0 [.ref op, .ref od, .ref ow, .ref ol, iv fw, iv fr, iv ew, iv gp, iv rm, iv os, iv ok, iv mn]), (op, ar cI 5 pr), (od, ar cI 5 sd), (ow, ar cI 3050 wo2_1), (ol, ar cI 6 la)]) [0, 1, 2, 3, 4] rfl) rfl rfl (pcP_S hE hK (hP.sub (ws' := [(oa, ob 0 [.ref op, .ref od, .ref ow, .ref ol, iv fw, iv fr, iv ew, iv gp, iv rm, iv os, iv ok, iv mn]), (op, ar cI 5 pr), (od, ar cI 5 sd), (ow, ar cI 3050 wo2_1), (ol, ar cI 6 la)]) [0, 1, 2, 3, 4] rfl))) rfl rfl hl.1 rfl (lv_room (Nat.le_of_ble_eq_true rfl)) dX0_greatestWorth_27 ⟨Nat.le_of_ble_eq_true rfl, Nat.le_of_ble_eq_true rfl⟩) ?_
  subst hQ
  exact r_Mi hx hb hr hlocks (by first | rfl | decide) dX0_greatestWorth_30 hS (hP.sub (ws' := [(oa, ob 0 [.ref op, .ref od, .ref ow, .ref ol, iv fw, iv fr, iv ew, iv gp, iv rm, iv os, iv ok, iv mn]), (op, ar cI 5 pr), (od, ar cI 5 sd), (ow, ar cI 3050 wo2_1), (ol, ar cI 6 la)]) [0, 1, 2, 3, 4] rfl) (hD.sub (ws' := [(oa, ob 0 [.ref op, .ref od, .ref ow, .ref ol, iv fw, iv fr, iv ew, iv gp, iv rm, iv os, iv ok, iv mn]), (op, ar cI 5 pr), (od, ar cI 5 sd), (ow, ar cI 3050 wo2_1), (ol, ar cI 6 la)]) [0, 1, 2, 3, 4] (by decide) rfl) (⟨wo2_1, rfl, rfl⟩) (Nat.le_of_ble_eq_true rfl) (Nat.le_of_ble_eq_true rfl)

abbrev rm_X0_lowestBestStep : Room := { frames := 4, cells := 0, slots := 0, locals := 96 }
set_option maxHeartbeats 4000000 in
set_option maxRecDepth 100000 in
/-- the lowest step that gives the best -/
theorem mt_X0_lowestBestStep (l : Launch) (D : va_G) (cI cS cJ : ClassId) (oa : Nat) (op : Nat) (od : Nat) (ow : Nat) (ol : Nat) (pr : Int → Int) (sd : Int → Int) (wo : Int → Int) (la : Int → Int) (fw : Int) (fr : Int) (ew : Int) (gp : Int) (rm : Int) (os : Int) (ok : Int) (ml : Int) (wk : Int) (sp : Int) (lf : Int) (hB : PB pr sd fw fr ew gp rm os ok) (hm6 : 0 ≤ ml ∧ ml ≤ 60) (hG : GW pr sd gp rm ml ew os ok wo wk) (hwk : 0 ≤ wk ∧ wk < ew) (hsp : os ≤ sp ∧ sp < 5) (hlf : 0 ≤ lf ∧ lf ≤ ok) (hne : pv pr sd gp rm ml (ew - wk).toNat sp 0 lf ≠ -1) : cP l yX0_lowestBestStep wsX0_lowestBestStep rm_X0_lowestBestStep [.ref oa, iv wk, iv sp, iv lf] D (tyL cI cS cJ) [(oa, ob 0 [.ref op, .ref od, .ref ow, .ref ol, iv fw, iv fr, iv ew, iv gp, iv rm, iv os, iv ok, iv ml]), (op, ar cI 5 pr), (od, ar cI 5 sd), (ow, ar cI 3050 wo), (ol, ar cI 6 la)] (zI (fnd (cand (pv pr sd gp rm ml (ew - wk - 1).toNat) pr sd gp sp 0 lf) (pv pr sd gp rm ml (ew - wk).toNat sp 0 lf) sp (5 - sp).toNat)) := by
  refine en_P (cc := cX0_lowestBestStep) (maxL := 6) (ret := (some .int)) (by decide) rfl (Nat.le_of_ble_eq_true rfl) ?_
  intro p e s m args below meth c ls hX hE hP hK hl Q hQ
  obtain ⟨hx, hb, hr, hml, hts, hown, hlocks, hnm⟩ := hX
  have hown : s.vm.findClass RX0 = some m.cls := hown
  have hl : lv_has ls 6 [(0, .ref oa), (1, iv wk), (2, iv sp), (3, iv lf)] := hl
  obtain ⟨hfw, hfr, hgp, hrm, hos, hok, hpr, hsd⟩ := id hB
  have hd0 : ∀ j : Int, 0 ≤ j → j < 5 → 0 ≤ sd j := fun j a b => (hsd j a b).1
  have hp0 : ∀ j : Int, 0 ≤ j → j < 5 → 0 ≤ pr j := fun j a b => (hpr j a b).1
  refine lv_aload_n hx hb dX0_lowestBestStep_0 rfl (lv_at hl 0 rfl) ?_
  refine lv_iload_n hx hb dX0_lowestBestStep_1 rfl (lv_at hl 1 rfl) ?_
  refine lv_iload_n hx hb dX0_lowestBestStep_2 rfl (lv_at hl 2 rfl) ?_
  refine lv_iload_n hx hb dX0_lowestBestStep_3 rfl (lv_at hl 3 rfl) ?_
  refine ms_P (va_runV (As := [iv wk, iv sp, iv lf]) (rest := []) ⟨hx, hb, hml, hown, hts⟩ (mt_X0_worthFrom l D cI cS cJ oa op od ow ol pr sd wo la fw fr ew gp rm os ok ml wk sp lf wk (hB) (hm6) (hG) (by omega) (by omega) (by omega)) (cwV 3 hts gX0_lowestBestStep_X0_worthFrom rfl rfl rfl (by decide +kernel) ⟨Nat.le_of_ble_eq_true rfl, Nat.le_of_ble_eq_true rfl⟩) (pc_V (ci := 0) (q0 := 0) hK (hP.sub (ws' := [(oa, ob 0 [.ref op, .ref od, .ref ow, .ref ol, iv fw, iv fr, iv ew, iv gp, iv rm, iv os, iv ok, iv ml]), (op, ar cI 5 pr), (od, ar cI 5 sd), (ow, ar cI 3050 wo), (ol, ar cI 6 la)]) [0, 1, 2, 3, 4] rfl) rfl rfl (pcP_S hE hK (hP.sub (ws' := [(oa, ob 0 [.ref op, .ref od, .ref ow, .ref ol, iv fw, iv fr, iv ew, iv gp, iv rm, iv os, iv ok, iv ml]), (op, ar cI 5 pr), (od, ar cI 5 sd), (ow, ar cI 3050 wo), (ol, ar cI 6 la)]) [0, 1, 2, 3, 4] rfl))) rfl rfl hl.1 rfl (lv_room (Nat.le_of_ble_eq_true rfl)) dX0_lowestBestStep_4 ⟨Nat.le_of_ble_eq_true rfl, Nat.le_of_ble_eq_true rfl⟩) ?_
  refine i_name (fun gr hgr => ?_)
  have hg0 := pv_ge (g := gp) (ml := ml) hd0 hp0 hrm.1 (ew - wk).toNat sp 0 lf hlf.1
  have hg1 := pv_le (g := gp) (ml := ml) hd0 hpr hrm.2 (ew - wk).toNat sp 0 lf (by omega) hlf.1
  have hG2 := hG.mono (show wk ≤ wk + 1 by omega)
  refine lv_istore (lv' := [(4, iv gr), (0, .ref oa), (1, iv wk), (2, iv sp), (3, iv lf)]) hx hb dX0_lowestBestStep_7 hl (by decide) rfl (fun ls hl => ?_)
  refine lv_iload_n hx hb dX0_lowestBestStep_9 rfl (lv_at hl 3 rfl) ?_
  refine lv_istore (lv' := [(5, iv sp), (4, iv gr), (0, .ref oa), (1, iv wk), (2, iv sp), (3, iv lf)]) hx hb dX0_lowestBestStep_10 hl (by decide) rfl (fun ls hl => ?_)
  have J_12 : ∀ (n_12 : Nat) (nx : Int) (hnx : sp ≤ nx ∧ nx ≤ 5) (hno : ∀ j : Int, sp ≤ j → j < nx → cand (pv pr sd gp rm ml (ew - wk - 1).toNat) pr sd gp sp 0 lf j ≠ gr) (hm_12 : ((5 - nx).toNat) < n_12) (ls : Array Slot) (hl : lv_has ls 6 [(0, .ref oa), (1, iv wk), (2, iv sp), (3, iv lf), (4, iv gr), (5, iv nx)]), W p l e rm_X0_lowestBestStep s m args below meth c s.heap [] 0 0 Q (F0 m 12 ls []) := by
    intro n_12
    induction n_12 with
    | zero => intro nx hnx hno hm_12 ls hl; exact absurd hm_12 (Nat.not_lt_zero _)
    | succ n_12 ih_12 =>
      intro nx hnx hno hm_12 ls hl
      refine lv_iload hx hb dX0_lowestBestStep_12 (lv_at hl 5 rfl) ?_
      refine lv_iconst (v := zI 5) hx hb dX0_lowestBestStep_14 rfl ?_
      refine i_icmp_ge (tgt := 41) hx hb ⟨by omega, by omega⟩ ⟨by decide, by decide⟩ dX0_lowestBestStep_15 (by decide) (fun c_1 => ?_) (fun c_1 => ?_)
      · skip
        refine lv_iload_n hx hb dX0_lowestBestStep_41 rfl (lv_at hl 2 rfl) ?_
        subst hQ
        exact r_P hx hb hr hlocks (by rfl) dX0_lowestBestStep_42 (by
      exfalso
      rw [show (ew - wk).toNat = (ew - wk - 1).toNat + 1 by omega] at hne hgr
      obtain ⟨i9, z1, z2, z3⟩ := pv_ex (ew - wk - 1).toNat (by omega) hne
      exact hno i9 z1 (by omega) (by rw [hgr]; exact z3))
      · skip
        refine lv_aload_n hx hb dX0_lowestBestStep_18 rfl (lv_at hl 0 rfl) ?_
        refine lv_iload_n hx hb dX0_lowestBestStep_19 rfl (lv_at hl 1 rfl) ?_
        refine lv_iload_n hx hb dX0_lowestBestStep_20 rfl (lv_at hl 2 rfl) ?_
        refine lv_iload hx hb dX0_lowestBestStep_21 (lv_at hl 5 rfl) ?_
        refine lv_iload_n hx hb dX0_lowestBestStep_23 rfl (lv_at hl 3 rfl) ?_
        refine ms_P (va_runV (As := [iv wk, iv sp, iv nx, iv lf]) (rest := []) ⟨hx, hb, hml, hown, hts⟩ (mt_X0_worthOfTaking l D cI cS cJ oa op od ow ol pr sd wo la fw fr ew gp rm os ok ml wk sp nx lf (hB) (hm6) (hG2) (by omega) (by omega) (by omega) (by omega)) (cwV 4 hts gX0_lowestBestStep_X0_worthOfTaking rfl rfl rfl (by decide +kernel) ⟨Nat.le_of_ble_eq_true rfl, Nat.le_of_ble_eq_true rfl⟩) (pc_V (ci := 0) (q0 := 0) hK (hP.sub (ws' := [(oa, ob 0 [.ref op, .ref od, .ref ow, .ref ol, iv fw, iv fr, iv ew, iv gp, iv rm, iv os, iv ok, iv ml]), (op, ar cI 5 pr), (od, ar cI 5 sd), (ow, ar cI 3050 wo), (ol, ar cI 6 la)]) [0, 1, 2, 3, 4] rfl) rfl rfl (pcP_S hE hK (hP.sub (ws' := [(oa, ob 0 [.ref op, .ref od, .ref ow, .ref ol, iv fw, iv fr, iv ew, iv gp, iv rm, iv os, iv ok, iv ml]), (op, ar cI 5 pr), (od, ar cI 5 sd), (ow, ar cI 3050 wo), (ol, ar cI 6 la)]) [0, 1, 2, 3, 4] rfl))) rfl rfl hl.1 rfl (lv_room (Nat.le_of_ble_eq_true rfl)) dX0_lowestBestStep_24 ⟨Nat.le_of_ble_eq_true rfl, Nat.le_of_ble_eq_true rfl⟩) ?_
        have hcd := cand_in (g := gp) (ml := ml) (b := sp) (i := nx) (l := lf) (w := 0) hd0 hpr hrm (ew - wk - 1).toNat (by omega) (by omega) hlf.1
        refine lv_iload hx hb dX0_lowestBestStep_27 (lv_at hl 4 rfl) ?_
        refine i_icmp_ne (tgt := 35) hx hb ⟨by omega, by omega⟩ ⟨by omega, by omega⟩ dX0_lowestBestStep_29 (by decide) (fun c_2 => ?_) (fun c_2 => ?_)
        · skip
          refine i_iinc (n := 1) (lv' := [(5, iv (nx + 1)), (0, .ref oa), (1, iv wk), (2, iv sp), (3, iv lf), (4, iv gr)]) hx hb dX0_lowestBestStep_35 hl (k := 5) rfl (by decide) rfl (fun ls hl => ?_)
          refine lv_goto (tgt := 12) hx hb dX0_lowestBestStep_38 (by decide) ?_
          exact ih_12 (nx + 1) (by omega) (fun j q1 q2 => by rcases (show j < nx ∨ j = nx by omega) with h | h; exact hno j q1 h; rw [h]; assumption) (by omega) ls (lv_sub hl [1, 2, 3, 4, 5, 0] rfl)
        · skip
          refine lv_iload hx hb dX0_lowestBestStep_32 (lv_at hl 5 rfl) ?_
          subst hQ
          exact r_P hx hb hr hlocks (by rfl) dX0_lowestBestStep_34 (by rw [← hgr]; exact congrArg zI (fnd_eq _ hnx.1 (by omega) (by assumption) (fun j q1 q2 => hno j q1 q2)).symm)
  exact J_12 _ sp (by omega) (fun j q1 q2 => by omega) (Nat.lt_succ_self _) ls (lv_sub hl [2, 3, 4, 5, 1, 0] rfl)
end
section
/-! ladders: a row of steps, week by week; what one is worth, and the best of it and all behind it -/
def ladv (pr d : Int → Int) (g r : Int) (la : Int → Int) : Nat → Int → Int → Int → Int → Int
  | 0 => fun _ _ _ l => l * r
  | n + 1 => fun i b w l => cand (ladv pr d g r la n (i + 1)) pr d g b w l (la i)
def ladg (pr d : Int → Int) (g r : Int) (la : Int → Int) : Nat → Int → Int → Int → Int → Int
  | 0 => fun _ _ _ l => l * r
  | n + 1 => fun i b w l => max (cand (ladg pr d g r la n (i + 1)) pr d g b w l (la i)) (mxf (cand (pv pr d g r 60 n) pr d g b w l) (la i + 1) (4 - la i).toNat)
/-- the ladder as a number -/
def ladn (la : Int → Int) : Nat → Int → Int
  | 0 => fun _ => 0
  | n + 1 => fun i => la i * 5 ^ n + ladn la n (i + 1)
/-- the steps of a ladder -/
def LA (la : Int → Int) (n : Int) : Prop := ∀ j : Int, 0 ≤ j → j < n → 0 ≤ la j ∧ la j < 5
/-- la2 is the next ladder, turned at the week t -/
def LN (la la2 : Int → Int) (n t : Int) : Prop := 0 ≤ t ∧ t < n ∧ la t ≠ 4 ∧ (∀ j : Int, t < j → j < n → la j = 4) ∧ ∀ j : Int, 0 ≤ j → j < n → la2 j = if j < t then la j else la t + 1
theorem mxf_first {f : Int → Int} {b : Int} (k : Nat) (h : -1 ≤ f b) : mxf f b (k + 1) = max (f b) (mxf f (b + 1) k) := by
  induction k with
  | zero => show max (-1) (f (b + ((0 : Nat) : Int))) = max (f b) (-1); simp; omega
  | succ k ih =>
    show max (mxf f b (k + 1)) (f (b + ((k + 1 : Nat) : Int))) = max (f b) (max (mxf f (b + 1) k) (f (b + 1 + (k : Int))))
    rw [ih, show b + ((k + 1 : Nat) : Int) = b + 1 + (k : Int) by omega]
    omega
section LAD
variable {pr d : Int → Int} {g r : Int} {la la2 : Int → Int}
theorem cand_ge {V : Int → Int → Int → Int} {b w l i : Int} (hd : 0 ≤ d i) (hpr : 0 ≤ pr i) (hl : 0 ≤ l) (hV : ∀ b1 w1 l1 : Int, 0 ≤ l1 → -1 ≤ V b1 w1 l1) : -1 ≤ cand V pr d g b w l i := by
  unfold cand
  split
  · exact Int.le_refl _
  · exact add1_ge (hV _ _ _ (by omega)) (Int.mul_nonneg (by omega) hpr)
theorem cand_max {V1 V2 V3 : Int → Int → Int → Int} {b w l i : Int} (hd : 0 ≤ d i) (hpr : 0 ≤ pr i) (hl : 0 ≤ l) (h1 : ∀ b1 w1 l1 : Int, 0 ≤ l1 → -1 ≤ V1 b1 w1 l1) (h2 : ∀ b1 w1 l1 : Int, 0 ≤ l1 → -1 ≤ V2 b1 w1 l1) (h : ∀ b1 w1 l1 : Int, 0 ≤ l1 → V3 b1 w1 l1 = max (V1 b1 w1 l1) (V2 b1 w1 l1)) :
    cand V3 pr d g b w l i = max (cand V1 pr d g b w l i) (cand V2 pr d g b w l i) := by
  unfold cand
  generalize (if b < i then g - 1 else if 0 < w then w - 1 else 0) = w2
  by_cases hc : b < i ∧ 0 < w
  · simp only [if_pos hc]; omega
  · simp only [if_neg hc]
    have q0 : 0 ≤ l - min (d i) l := by omega
    have q3 := h i w2 _ q0
    have q1 := h1 i w2 _ q0
    have q2 := h2 i w2 _ q0
    have q4 : 0 ≤ min (d i) l * pr i := Int.mul_nonneg (by omega) hpr
    unfold add1
    generalize V3 i w2 (l - min (d i) l) = z3 at q3 ⊢
    generalize V1 i w2 (l - min (d i) l) = z1 at q3 q1 ⊢
    generalize V2 i w2 (l - min (d i) l) = z2 at q3 q2 ⊢
    generalize min (d i) l * pr i = y at q4 ⊢
    split <;> split <;> split <;> omega
theorem cand_congr {V1 V2 : Int → Int → Int → Int} {b w l i : Int} (hd : 0 ≤ d i) (hl : 0 ≤ l) (h : ∀ w1 l1 : Int, 0 ≤ l1 → V1 i w1 l1 = V2 i w1 l1) : cand V1 pr d g b w l i = cand V2 pr d g b w l i := by
  unfold cand
  rw [h _ _ (by omega)]
theorem ladv_ge (hd : ∀ j : Int, 0 ≤ j → j < 5 → 0 ≤ d j) (hpr : ∀ j : Int, 0 ≤ j → j < 5 → 0 ≤ pr j) (hr : 0 ≤ r) {N : Int} (hla : LA la N) : ∀ (n : Nat) (i b w l : Int), 0 ≤ i → i + n ≤ N → 0 ≤ l → -1 ≤ ladv pr d g r la n i b w l := by
  intro n
  induction n with
  | zero => intro i b w l _ _ hl; show -1 ≤ l * r; have := Int.mul_nonneg hl hr; omega
  | succ n ih =>
    intro i b w l hi hN hl
    have h1 := hla i hi (by omega)
    exact cand_ge (hd _ h1.1 h1.2) (hpr _ h1.1 h1.2) hl (fun b1 w1 l1 q => ih (i + 1) b1 w1 l1 (by omega) (by omega) q)
theorem ladg_ge (hd : ∀ j : Int, 0 ≤ j → j < 5 → 0 ≤ d j) (hpr : ∀ j : Int, 0 ≤ j → j < 5 → 0 ≤ pr j) (hr : 0 ≤ r) (n : Nat) (i b w l : Int) (hl : 0 ≤ l) : -1 ≤ ladg pr d g r la n i b w l := by
  cases n with
  | zero => show -1 ≤ l * r; have := Int.mul_nonneg hl hr; omega
  | succ n => show -1 ≤ max _ _; have := mxf_ge (cand (pv pr d g r 60 n) pr d g b w l) (la i + 1) (4 - la i).toNat; omega
/-- the first ladder: all of them -/
theorem ladg_first (hd : ∀ j : Int, 0 ≤ j → j < 5 → 0 ≤ d j) (hpr : ∀ j : Int, 0 ≤ j → j < 5 → 0 ≤ pr j) (hr : 0 ≤ r) {b : Int} (hb : 0 ≤ b) (hb5 : b < 5) : ∀ (n : Nat) (i w l : Int), (∀ j : Int, i ≤ j → j < i + n → la j = b) → 0 ≤ l → l ≤ 60 → ladg pr d g r la n i b w l = pv pr d g r 60 n b w l := by
  intro n
  induction n with
  | zero => intro i w l _ hl h60; show l * r = if l ≤ 60 then l * r else -1; rw [if_pos h60]
  | succ n ih =>
    intro i w l hla hl h60
    have e0 := hla i (Int.le_refl i) (by omega)
    have hd1 := hd b hb hb5
    show max (cand (ladg pr d g r la n (i + 1)) pr d g b w l (la i)) (mxf (cand (pv pr d g r 60 n) pr d g b w l) (la i + 1) (4 - la i).toNat) = mxf (cand (pv pr d g r 60 n) pr d g b w l) b (5 - b).toNat
    rw [e0, show (5 - b).toNat = (4 - b).toNat + 1 by omega, mxf_first _ (cand_ge (hd _ hb hb5) (hpr _ hb hb5) hl (fun b1 w1 l1 q => pv_ge hd hpr hr n b1 w1 l1 q))]
    congr 1
    unfold cand
    rw [ih (i + 1) _ _ (fun j q1 q2 => hla j (by omega) (by omega)) (by omega) (by omega)]
/-- the last ladder: it alone -/
theorem ladg_last (hd : ∀ j : Int, 0 ≤ j → j < 5 → 0 ≤ d j) (hpr : ∀ j : Int, 0 ≤ j → j < 5 → 0 ≤ pr j) (hr : 0 ≤ r) {N : Int} (hla : LA la N) : ∀ (n : Nat) (i b w l : Int), 0 ≤ i → i + n = N → (∀ j : Int, i ≤ j → j < N → la j = 4) → 0 ≤ l → ladg pr d g r la n i b w l = ladv pr d g r la n i b w l := by
  intro n
  induction n with
  | zero => intro i b w l _ _ _ _; rfl
  | succ n ih =>
    intro i b w l hi hN h4 hl
    have e0 := h4 i (Int.le_refl i) (by omega)
    show max (cand (ladg pr d g r la n (i + 1)) pr d g b w l (la i)) (mxf (cand (pv pr d g r 60 n) pr d g b w l) (la i + 1) (4 - la i).toNat) = cand (ladv pr d g r la n (i + 1)) pr d g b w l (la i)
    rw [e0]
    show max _ (-1) = _
    rw [cand_congr (V2 := ladv pr d g r la n (i + 1)) (hd 4 (by decide) (by decide)) hl (fun w1 l1 q => ih (i + 1) 4 w1 l1 (by omega) (by omega) (fun j q1 q2 => h4 j (by omega) q2) q)]
    have := cand_ge (V := ladv pr d g r la n (i + 1)) (g := g) (b := b) (w := w) (hd 4 (by decide) (by decide)) (hpr 4 (by decide) (by decide)) hl (fun b1 w1 l1 q => ladv_ge (g := g) hd hpr hr hla n (i + 1) b1 w1 l1 (by omega) (by omega) q)
    omega
/-- one ladder further -/
theorem ladg_next (hd : ∀ j : Int, 0 ≤ j → j < 5 → 0 ≤ d j) (hpr : ∀ j : Int, 0 ≤ j → j < 5 → 0 ≤ pr j) (hr : 0 ≤ r) {N t : Int} (hla : LA la N) (hn : LN la la2 N t) : ∀ (n : Nat) (i b w l : Int), 0 ≤ i → i + n = N → i ≤ t → 0 ≤ l → l ≤ 60 → ladg pr d g r la n i b w l = max (ladv pr d g r la n i b w l) (ladg pr d g r la2 n i b w l) := by
  obtain ⟨ht0, htN, ht4, htl, hl2⟩ := hn
  intro n
  induction n with
  | zero => intro i b w l hi hN hit; omega
  | succ n ih =>
    intro i b w l hi hN hit hl h60
    have hr1 := hla i hi (by omega)
    have hdi := hd _ hr1.1 hr1.2
    have hpi := hpr _ hr1.1 hr1.2
    show max (cand (ladg pr d g r la n (i + 1)) pr d g b w l (la i)) (mxf (cand (pv pr d g r 60 n) pr d g b w l) (la i + 1) (4 - la i).toNat) = max (cand (ladv pr d g r la n (i + 1)) pr d g b w l (la i)) (max (cand (ladg pr d g r la2 n (i + 1)) pr d g b w l (la2 i)) (mxf (cand (pv pr d g r 60 n) pr d g b w l) (la2 i + 1) (4 - la2 i).toNat))
    have e2 := hl2 i hi (by omega)
    by_cases hlt : i < t
    · rw [if_pos hlt] at e2
      rw [e2]
      have key : cand (ladg pr d g r la n (i + 1)) pr d g b w l (la i) = max (cand (ladv pr d g r la n (i + 1)) pr d g b w l (la i)) (cand (ladg pr d g r la2 n (i + 1)) pr d g b w l (la i)) := by
        unfold cand
        generalize (if b < la i then g - 1 else if 0 < w then w - 1 else 0) = w2
        by_cases hc : b < la i ∧ 0 < w
        · simp only [if_pos hc]; omega
        · simp only [if_neg hc]
          have q0 : 0 ≤ l - min (d (la i)) l := by omega
          have q3 := ih (i + 1) (la i) w2 (l - min (d (la i)) l) (by omega) (by omega) (by omega) q0 (by omega)
          have q1 := ladv_ge (g := g) hd hpr hr hla n (i + 1) (la i) w2 (l - min (d (la i)) l) (by omega) (by omega) q0
          have q2 := ladg_ge (g := g) (la := la2) hd hpr hr n (i + 1) (la i) w2 (l - min (d (la i)) l) q0
          have q4 : 0 ≤ min (d (la i)) l * pr (la i) := Int.mul_nonneg (by omega) hpi
          unfold add1
          generalize ladg pr d g r la n (i + 1) (la i) w2 (l - min (d (la i)) l) = z3 at q3 ⊢
          generalize ladv pr d g r la n (i + 1) (la i) w2 (l - min (d (la i)) l) = z1 at q3 q1 ⊢
          generalize ladg pr d g r la2 n (i + 1) (la i) w2 (l - min (d (la i)) l) = z2 at q3 q2 ⊢
          generalize min (d (la i)) l * pr (la i) = y at q4 ⊢
          split <;> split <;> split <;> omega
      rw [key]
      omega
    · have hit2 : i = t := by omega
      subst hit2
      rw [if_neg (by omega)] at e2
      rw [e2]
      have c0 : 0 ≤ la i + 1 := by omega
      have c5 : la i + 1 < 5 := by omega
      rw [cand_congr (V1 := ladg pr d g r la n (i + 1)) (V2 := ladv pr d g r la n (i + 1)) hdi hl (fun w1 l1 q => ladg_last hd hpr hr hla n (i + 1) (la i) w1 l1 (by omega) (by omega) (fun j q1 q2 => htl j (by omega) q2) q)]
      congr 1
      rw [show (4 - la i).toNat = (4 - (la i + 1)).toNat + 1 by omega, mxf_first _ (cand_ge (hd _ c0 c5) (hpr _ c0 c5) hl (fun b1 w1 l1 q => pv_ge hd hpr hr n b1 w1 l1 q))]
      congr 1
      unfold cand
      have hdc := hd _ c0 c5
      rw [ladg_first hd hpr hr c0 c5 n (i + 1) _ _ (fun j q1 q2 => by rw [hl2 j (by omega) (by omega), if_neg (by omega)]) (by omega) (by omega)]
theorem ladn_lt {N : Int} (hla : LA la N) : ∀ (n : Nat) (i : Int), 0 ≤ i → i + n ≤ N → 0 ≤ ladn la n i ∧ ladn la n i < 5 ^ n := by
  intro n
  induction n with
  | zero => intro i _ _; exact ⟨Int.le_refl _, show (0 : Int) < 5 ^ 0 from by decide⟩
  | succ n ih =>
    intro i hi hN
    have h1 := hla i hi (by omega)
    have h2 := ih (i + 1) (by omega) (by omega)
    have h5 : (0 : Int) < 5 ^ n := Int.pow_pos (by decide)
    have h3 : 0 ≤ la i * 5 ^ n := Int.mul_nonneg h1.1 (by omega)
    have h4 : la i * 5 ^ n ≤ 4 * 5 ^ n := Int.mul_le_mul_of_nonneg_right (by omega) (by omega)
    have e : (5 : Int) ^ (n + 1) = 5 ^ n * 5 := Int.pow_succ 5 n
    show 0 ≤ la i * 5 ^ n + ladn la n (i + 1) ∧ la i * 5 ^ n + ladn la n (i + 1) < 5 ^ (n + 1)
    rw [e]
    omega
theorem ladn_next {N t : Int} (hla : LA la N) (hla2 : LA la2 N) (hn : LN la la2 N t) : ∀ (n : Nat) (i : Int), 0 ≤ i → i + n = N → i ≤ t → ladn la n i + 1 ≤ ladn la2 n i := by
  obtain ⟨ht0, htN, ht4, htl, hl2⟩ := hn
  intro n
  induction n with
  | zero => intro i hi hN hit; omega
  | succ n ih =>
    intro i hi hN hit
    have e2 := hl2 i hi (by omega)
    show la i * 5 ^ n + ladn la n (i + 1) + 1 ≤ la2 i * 5 ^ n + ladn la2 n (i + 1)
    by_cases hlt : i < t
    · rw [if_pos hlt] at e2
      rw [e2]
      have := ih (i + 1) (by omega) (by omega) (by omega)
      omega
    · have hit2 : i = t := by omega
      subst hit2
      rw [if_neg (by omega)] at e2
      rw [e2, Int.add_mul]
      have h1 := ladn_lt hla n (i + 1) (by omega) (by omega)
      have h2 := ladn_lt hla2 n (i + 1) (by omega) (by omega)
      omega
theorem LN.range {N t : Int} (hla : LA la N) (hn : LN la la2 N t) : LA la2 N := by
  obtain ⟨ht0, htN, ht4, htl, hl2⟩ := hn
  intro j h0 h1
  have a1 := hla j h0 h1
  have a2 := hla t ht0 htN
  rw [hl2 j h0 h1]
  split <;> omega
end LAD
end
section
abbrev rm_X0_lookAt : Room := { frames := 2, cells := 0, slots := 0, locals := 43 }
set_option maxHeartbeats 4000000 in
set_option maxRecDepth 100000 in
/-- what a plan looks at -/
theorem mt_X0_lookAt (l : Launch) (D : va_G) (cI cS cJ : ClassId) (oa : Nat) (op : Nat) (od : Nat) (ow : Nat) (ol : Nat) (pr0 : Int → Int) (sd0 : Int → Int) (wo : Int → Int) (la : Int → Int) (fw : Int) (fr : Int) (ew : Int) (gp0 : Int) (rm0 : Int) (os : Int) (ok : Int) (ml : Int) (sa : Nat) (sp : Nat) (pr : Int → Int) (wks : Int) (wk : Int) (gp : Int) (rm : Int) (mv : Int) (tk : Int) (h : Nat) (hd : Nat) (hp : Nat) (d : Int → Int) (k : Int → Int) (st : Int) (md : Int) (ps : Int) (hm : -1 ≤ md ∧ md ≤ 100) (hg : 0 ≤ gp ∧ gp ≤ 100) (hwk : 0 ≤ wk ∧ wk ≤ 100) (hwks : 0 ≤ wks ∧ wks ≤ 100) : cM l yX0_lookAt wsX0_lookAt rm_X0_lookAt [.ref oa, .ref sa, .ref h] D (tyL cI cS cJ) [(oa, ob 0 [.ref op, .ref od, .ref ow, .ref ol, iv fw, iv fr, iv ew, iv gp0, iv rm0, iv os, iv ok, iv ml]), (op, ar cI 5 pr0), (od, ar cI 5 sd0), (ow, ar cI 3050 wo), (ol, ar cI 6 la), (sa, ob 1 [.ref sp, iv wks, iv wk, iv gp, iv rm, iv mv, iv tk]), (sp, ar cI 5 pr), (h, ob 2 [.ref hd, .ref hp, iv st, iv md, iv ps]), (hd, ar cI 5 d), (hp, ar cI 3 k)] (fun r_ w_ => r_ = none ∧ w_ = [(oa, ob 0 [.ref op, .ref od, .ref ow, .ref ol, iv wk, iv (min wks (wk + wtv md gp wk)), iv wks, iv gp, iv rm, iv st, iv (whl k), iv ml]), (op, ar cI 5 pr), (od, ar cI 5 d), (ow, ar cI 3050 wo), (ol, ar cI 6 la), (sa, ob 1 [.ref sp, iv wks, iv wk, iv gp, iv rm, iv mv, iv tk]), (sp, ar cI 5 pr), (h, ob 2 [.ref hd, .ref hp, iv st, iv md, iv ps]), (hd, ar cI 5 d), (hp, ar cI 3 k)]) 0 0 := by
  refine en_M (cc := cX0_lookAt) (maxL := 3) (ret := none) (by decide) rfl (Nat.le_of_ble_eq_true rfl) ?_
  intro p e s m args below meth c ls A hX hE hP hK hD hS hA hl Q hQ
  obtain ⟨hx, hb, hr, hml, hts, hown, hlocks, hnm⟩ := hX
  have hown : s.vm.findClass RX0 = some m.cls := hown
  have hl : lv_has ls 3 [(0, .ref oa), (1, .ref sa), (2, .ref h)] := hl
  have inX0 : ∀ w ∈ u_ws RX0 TX0 12, w ∈ wsX0_lookAt := by decide +kernel
  have inX1 : ∀ w ∈ u_ws RX1 TX1 7, w ∈ wsX0_lookAt := by decide +kernel
  have inX2 : ∀ w ∈ u_ws RX2 TX2 5, w ∈ wsX0_lookAt := by decide +kernel
  have w0 : (Cond.fieldLink RX0 9 RX0 "prices" "[I").before args s = true := hts _ (by decide +kernel)
  have w1 : (Cond.methodLink RX0 27 arraycopyName).before args s = true := hts _ (by decide +kernel)
  have w2 : (Cond.native arraycopyName).before args s = true := hts _ (by decide +kernel)
  have w3 : (Cond.static arraycopyName).before args s = true := hts _ (by decide +kernel)
  have w4 : (Cond.initialized "java/lang/System").before args s = true := hts _ (by decide +kernel)
  have w5 : (Cond.fieldLink RX0 15 RX0 "demands" "[I").before args s = true := hts _ (by decide +kernel)
  have w6 : (Cond.fieldLink RX0 40 RX0 "firstWeek" "I").before args s = true := hts _ (by decide +kernel)
  have w7 : (Cond.fieldLink RX0 46 RX0 "endWeek" "I").before args s = true := hts _ (by decide +kernel)
  have w8 : (Cond.fieldLink RX0 52 RX0 "gap" "I").before args s = true := hts _ (by decide +kernel)
  have w9 : (Cond.fieldLink RX0 56 RX0 "remnant" "I").before args s = true := hts _ (by decide +kernel)
  have w10 : (Cond.initialized RX2).before args s = true := hts _ (by decide +kernel)
  have w11 : (Cond.instanceMethod yX2_waitFrom).before args s = true := hts _ (by decide +kernel)
  have w12 : (Cond.selects RX2 yX2_waitFrom yX2_waitFrom).before args s = true := hts _ (by decide +kernel)
  have w13 : (Cond.methodLink RX0 61 Lib.Math.min.name).before args s = true := hts _ (by decide +kernel)
  have w14 : (Cond.static Lib.Math.min.name).before args s = true := hts _ (by decide +kernel)
  have w15 : (Cond.initialized "java/lang/Math").before args s = true := hts _ (by decide +kernel)
  have w16 : (Cond.code Lib.Math.min.name Lib.Math.min.code 2 (some .int)).before args s = true := hts _ (by decide +kernel)
  have w17 : (Cond.fieldLink RX0 66 RX0 "freeWeek" "I").before args s = true := hts _ (by decide +kernel)
  have w18 : (Cond.fieldLink RX0 72 RX0 "ownStep" "I").before args s = true := hts _ (by decide +kernel)
  have w19 : (Cond.instanceMethod yX2_wholeStock).before args s = true := hts _ (by decide +kernel)
  have w20 : (Cond.selects RX2 yX2_wholeStock yX2_wholeStock).before args s = true := hts _ (by decide +kernel)
  have w21 : (Cond.fieldLink RX0 79 RX0 "ownStock" "I").before args s = true := hts _ (by decide +kernel)
  refine lv_aload_n hx hb dX0_lookAt_0 rfl (lv_at hl 1 rfl) ?_
  refine va_getN (D := D) (ci := 1) (v := .ref sp) (C := RX1) (T := TX1) (N := 7) hx hb hts inX1 hown hK hP 5 rfl rfl 0 (by decide) (hE.at 0 rfl) (fun _ h9 => h9) rfl dX0_lookAt_1 ?_
  refine lv_iconst (v := zI 0) hx hb dX0_lookAt_4 rfl ?_
  refine lv_aload_n hx hb dX0_lookAt_5 rfl (lv_at hl 0 rfl) ?_
  refine va_get (D := D) (ci := 0) (v := .ref op) (C := RX0) (T := TX0) (N := 12) hx hb hts inX0 hown hK hP 0 rfl rfl 0 (by decide) w0 (fun _ h9 => h9) rfl dX0_lookAt_6 ?_
  refine lv_iconst (v := zI 0) hx hb dX0_lookAt_9 rfl ?_
  refine lv_iconst (v := zI 5) hx hb dX0_lookAt_10 rfl ?_
  refine i_copy (N := 5) hx hb (hml.trans hl.1.symm) hown w1 w2 w3 w4 hK hP hD hS 6 1 rfl rfl rfl rfl (Nat.le_of_ble_eq_true rfl) ⟨Nat.le_of_ble_eq_true rfl, Nat.le_of_ble_eq_true rfl⟩ (Nat.le_of_ble_eq_true rfl) dX0_lookAt_11 (fun H locs hP hD hS => ?_)
  have hP : va_P D vwCl [(oa, ob 0 [.ref op, .ref od, .ref ow, .ref ol, iv fw, iv fr, iv ew, iv gp0, iv rm0, iv os, iv ok, iv ml]), (op, ar cI 5 pr), (od, ar cI 5 sd0), (ow, ar cI 3050 wo), (ol, ar cI 6 la), (sa, ob 1 [.ref sp, iv wks, iv wk, iv gp, iv rm, iv mv, iv tk]), (sp, ar cI 5 pr), (h, ob 2 [.ref hd, .ref hp, iv st, iv md, iv ps]), (hd, ar cI 5 d), (hp, ar cI 3 k)] H := hP
  have hD : va_D A [(oa, ob 0 [.ref op, .ref od, .ref ow, .ref ol, iv fw, iv fr, iv ew, iv gp0, iv rm0, iv os, iv ok, iv ml]), (op, ar cI 5 pr), (od, ar cI 5 sd0), (ow, ar cI 3050 wo), (ol, ar cI 6 la), (sa, ob 1 [.ref sp, iv wks, iv wk, iv gp, iv rm, iv mv, iv tk]), (sp, ar cI 5 pr), (h, ob 2 [.ref hd, .ref hp, iv st, iv md, iv ps]), (hd, ar cI 5 d), (hp, ar cI 3 k)] := hD
  refine lv_aload_n hx hb dX0_lookAt_14 rfl (lv_at hl 2 rfl) ?_
  refine va_getN (D := D) (ci := 2) (v := .ref hd) (C := RX2) (T := TX2) (N := 5) hx hb hts inX2 hown hK hP 7 rfl rfl 0 (by decide) (hE.at 12 rfl) (fun _ h9 => h9) rfl dX0_lookAt_15 ?_
  refine lv_iconst (v := zI 0) hx hb dX0_lookAt_18 rfl ?_
  refine lv_aload_n hx hb dX0_lookAt_19 rfl (lv_at hl 0 rfl) ?_
  refine va_get (D := D) (ci := 0) (v := .ref od) (C := RX0) (T := TX0) (N := 12) hx hb hts inX0 hown hK hP 0 rfl rfl 1 (by decide) w5 (fun _ h9 => h9) rfl dX0_lookAt_20 ?_
  refine lv_iconst (v := zI 0) hx hb dX0_lookAt_23 rfl ?_
  refine lv_iconst (v := zI 5) hx hb dX0_lookAt_24 rfl ?_
  refine i_copy (N := 5) hx hb (hml.trans hl.1.symm) hown w1 w2 w3 w4 hK hP hD hS 8 2 rfl rfl rfl rfl (Nat.le_of_ble_eq_true rfl) ⟨Nat.le_of_ble_eq_true rfl, Nat.le_of_ble_eq_true rfl⟩ (Nat.le_of_ble_eq_true rfl) dX0_lookAt_25 (fun H locs hP hD hS => ?_)
  have hP : va_P D vwCl [(oa, ob 0 [.ref op, .ref od, .ref ow, .ref ol, iv fw, iv fr, iv ew, iv gp0, iv rm0, iv os, iv ok, iv ml]), (op, ar cI 5 pr), (od, ar cI 5 d), (ow, ar cI 3050 wo), (ol, ar cI 6 la), (sa, ob 1 [.ref sp, iv wks, iv wk, iv gp, iv rm, iv mv, iv tk]), (sp, ar cI 5 pr), (h, ob 2 [.ref hd, .ref hp, iv st, iv md, iv ps]), (hd, ar cI 5 d), (hp, ar cI 3 k)] H := hP
  have hD : va_D A [(oa, ob 0 [.ref op, .ref od, .ref ow, .ref ol, iv fw, iv fr, iv ew, iv gp0, iv rm0, iv os, iv ok, iv ml]), (op, ar cI 5 pr), (od, ar cI 5 d), (ow, ar cI 3050 wo), (ol, ar cI 6 la), (sa, ob 1 [.ref sp, iv wks, iv wk, iv gp, iv rm, iv mv, iv tk]), (sp, ar cI 5 pr), (h, ob 2 [.ref hd, .ref hp, iv st, iv md, iv ps]), (hd, ar cI 5 d), (hp, ar cI 3 k)] := hD
  refine lv_aload_n hx hb dX0_lookAt_28 rfl (lv_at hl 0 rfl) ?_
  refine lv_aload_n hx hb dX0_lookAt_29 rfl (lv_at hl 1 rfl) ?_
  refine va_getN (D := D) (ci := 1) (v := iv wk) (C := RX1) (T := TX1) (N := 7) hx hb hts inX1 hown hK hP 5 rfl rfl 2 (by decide) (hE.at 5 rfl) (fun _ h9 => h9) rfl dX0_lookAt_30 ?_
  refine va_put (D := D) (ci := 0) (v := iv wk) (ty := .int) (C := RX0) (T := TX0) (N := 12) hx hb hts inX0 tyX0 tyX0_ok nmX0 hown hK hP hD hS 0 rfl rfl 4 (by decide) w6 (fun _ h9 => h9) rfl (by decide +kernel) rfl rfl (Nat.le_of_ble_eq_true rfl) dX0_lookAt_33 (fun H locs hP hD hS => ?_)
  have hP : va_P D vwCl [(oa, ob 0 [.ref op, .ref od, .ref ow, .ref ol, iv wk, iv fr, iv ew, iv gp0, iv rm0, iv os, iv ok, iv ml]), (op, ar cI 5 pr), (od, ar cI 5 d), (ow, ar cI 3050 wo), (ol, ar cI 6 la), (sa, ob 1 [.ref sp, iv wks, iv wk, iv gp, iv rm, iv mv, iv tk]), (sp, ar cI 5 pr), (h, ob 2 [.ref hd, .ref hp, iv st, iv md, iv ps]), (hd, ar cI 5 d), (hp, ar cI 3 k)] H := hP
  have hD : va_D A [(oa, ob 0 [.ref op, .ref od, .ref ow, .ref ol, iv wk, iv fr, iv ew, iv gp0, iv rm0, iv os, iv ok, iv ml]), (op, ar cI 5 pr), (od, ar cI 5 d), (ow, ar cI 3050 wo), (ol, ar cI 6 la), (sa, ob 1 [.ref sp, iv wks, iv wk, iv gp, iv rm, iv mv, iv tk]), (sp, ar cI 5 pr), (h, ob 2 [.ref hd, .ref hp, iv st, iv md, iv ps]), (hd, ar cI 5 d), (hp, ar cI 3 k)] := hD
  refine lv_aload_n hx hb dX0_lookAt_36 rfl (lv_at hl 0 rfl) ?_
  refine lv_aload_n hx hb dX0_lookAt_37 rfl (lv_at hl 1 rfl) ?_
  refine va_getN (D := D) (ci := 1) (v := iv wks) (C := RX1) (T := TX1) (N := 7) hx hb hts inX1 hown hK hP 5 rfl rfl 1 (by decide) (hE.at 2 rfl) (fun _ h9 => h9) rfl dX0_lookAt_38 ?_
  refine va_put (D := D) (ci := 0) (v := iv wks) (ty := .int) (C := RX0) (T := TX0) (N := 12) hx hb hts inX0 tyX0 tyX0_ok nmX0 hown hK hP hD hS 0 rfl rfl 6 (by decide) w7 (fun _ h9 => h9) rfl (by decide +kernel) rfl rfl (Nat.le_of_ble_eq_true rfl) dX0_lookAt_41 (fun H locs hP hD hS => ?_)
  have hP : va_P D vwCl [(oa, ob 0 [.ref op, .ref od, .ref ow, .ref ol, iv wk, iv fr, iv wks, iv gp0, iv rm0, iv os, iv ok, iv ml]), (op, ar cI 5 pr), (od, ar cI 5 d), (ow, ar cI 3050 wo), (ol, ar cI 6 la), (sa, ob 1 [.ref sp, iv wks, iv wk, iv gp, iv rm, iv mv, iv tk]), (sp, ar cI 5 pr), (h, ob 2 [.ref hd, .ref hp, iv st, iv md, iv ps]), (hd, ar cI 5 d), (hp, ar cI 3 k)] H := hP
  have hD : va_D A [(oa, ob 0 [.ref op, .ref od, .ref ow, .ref ol, iv wk, iv fr, iv wks, iv gp0, iv rm0, iv os, iv ok, iv ml]), (op, ar cI 5 pr), (od, ar cI 5 d), (ow, ar cI 3050 wo), (ol, ar cI 6 la), (sa, ob 1 [.ref sp, iv wks, iv wk, iv gp, iv rm, iv mv, iv tk]), (sp, ar cI 5 pr), (h, ob 2 [.ref hd, .ref hp, iv st, iv md, iv ps]), (hd, ar cI 5 d), (hp, ar cI 3 k)] := hD
  refine lv_aload_n hx hb dX0_lookAt_44 rfl (lv_at hl 0 rfl) ?_
  refine lv_aload_n hx hb dX0_lookAt_45 rfl (lv_at hl 1 rfl) ?_
  refine va_getN (D := D) (ci := 1) (v := iv gp) (C := RX1) (T := TX1) (N := 7) hx hb hts inX1 hown hK hP 5 rfl rfl 3 (by decide) (hE.at 6 rfl) (fun _ h9 => h9) rfl dX0_lookAt_46 ?_
  refine va_put (D := D) (ci := 0) (v := iv gp) (ty := .int) (C := RX0) (T := TX0) (N := 12) hx hb hts inX0 tyX0 tyX0_ok nmX0 hown hK hP hD hS 0 rfl rfl 7 (by decide) w8 (fun _ h9 => h9) rfl (by decide +kernel) rfl rfl (Nat.le_of_ble_eq_true rfl) dX0_lookAt_49 (fun H locs hP hD hS => ?_)
  have hP : va_P D vwCl [(oa, ob 0 [.ref op, .ref od, .ref ow, .ref ol, iv wk, iv fr, iv wks, iv gp, iv rm0, iv os, iv ok, iv ml]), (op, ar cI 5 pr), (od, ar cI 5 d), (ow, ar cI 3050 wo), (ol, ar cI 6 la), (sa, ob 1 [.ref sp, iv wks, iv wk, iv gp, iv rm, iv mv, iv tk]), (sp, ar cI 5 pr), (h, ob 2 [.ref hd, .ref hp, iv st, iv md, iv ps]), (hd, ar cI 5 d), (hp, ar cI 3 k)] H := hP
  have hD : va_D A [(oa, ob 0 [.ref op, .ref od, .ref ow, .ref ol, iv wk, iv fr, iv wks, iv gp, iv rm0, iv os, iv ok, iv ml]), (op, ar cI 5 pr), (od, ar cI 5 d), (ow, ar cI 3050 wo), (ol, ar cI 6 la), (sa, ob 1 [.ref sp, iv wks, iv wk, iv gp, iv rm, iv mv, iv tk]), (sp, ar cI 5 pr), (h, ob 2 [.ref hd, .ref hp, iv st, iv md, iv ps]), (hd, ar cI 5 d), (hp, ar cI 3 k)] := hD
  refine lv_aload_n hx hb dX0_lookAt_52 rfl (lv_at hl 0 rfl) ?_
  refine lv_aload_n hx hb dX0_lookAt_53 rfl (lv_at hl 1 rfl) ?_
  refine va_getN (D := D) (ci := 1) (v := iv rm) (C := RX1) (T := TX1) (N := 7) hx hb hts inX1 hown hK hP 5 rfl rfl 4 (by decide) (hE.at 8 rfl) (fun _ h9 => h9) rfl dX0_lookAt_54 ?_
  refine va_put (D := D) (ci := 0) (v := iv rm) (ty := .int) (C := RX0) (T := TX0) (N := 12) hx hb hts inX0 tyX0 tyX0_ok nmX0 hown hK hP hD hS 0 rfl rfl 8 (by decide) w9 (fun _ h9 => h9) rfl (by decide +kernel) rfl rfl (Nat.le_of_ble_eq_true rfl) dX0_lookAt_57 (fun H locs hP hD hS => ?_)
  have hP : va_P D vwCl [(oa, ob 0 [.ref op, .ref od, .ref ow, .ref ol, iv wk, iv fr, iv wks, iv gp, iv rm, iv os, iv ok, iv ml]), (op, ar cI 5 pr), (od, ar cI 5 d), (ow, ar cI 3050 wo), (ol, ar cI 6 la), (sa, ob 1 [.ref sp, iv wks, iv wk, iv gp, iv rm, iv mv, iv tk]), (sp, ar cI 5 pr), (h, ob 2 [.ref hd, .ref hp, iv st, iv md, iv ps]), (hd, ar cI 5 d), (hp, ar cI 3 k)] H := hP
  have hD : va_D A [(oa, ob 0 [.ref op, .ref od, .ref ow, .ref ol, iv wk, iv fr, iv wks, iv gp, iv rm, iv os, iv ok, iv ml]), (op, ar cI 5 pr), (od, ar cI 5 d), (ow, ar cI 3050 wo), (ol, ar cI 6 la), (sa, ob 1 [.ref sp, iv wks, iv wk, iv gp, iv rm, iv mv, iv tk]), (sp, ar cI 5 pr), (h, ob 2 [.ref hd, .ref hp, iv st, iv md, iv ps]), (hd, ar cI 5 d), (hp, ar cI 3 k)] := hD
  refine lv_aload_n hx hb dX0_lookAt_60 rfl (lv_at hl 0 rfl) ?_
  refine lv_aload_n hx hb dX0_lookAt_61 rfl (lv_at hl 0 rfl) ?_
  refine va_get (D := D) (ci := 0) (v := iv wks) (C := RX0) (T := TX0) (N := 12) hx hb hts inX0 hown hK hP 0 rfl rfl 6 (by decide) w7 (fun _ h9 => h9) rfl dX0_lookAt_62 ?_
  refine lv_aload_n hx hb dX0_lookAt_65 rfl (lv_at hl 0 rfl) ?_
  refine va_get (D := D) (ci := 0) (v := iv wk) (C := RX0) (T := TX0) (N := 12) hx hb hts inX0 hown hK hP 0 rfl rfl 4 (by decide) w6 (fun _ h9 => h9) rfl dX0_lookAt_66 ?_
  refine lv_aload_n hx hb dX0_lookAt_69 rfl (lv_at hl 2 rfl) ?_
  refine lv_aload_n hx hb dX0_lookAt_70 rfl (lv_at hl 0 rfl) ?_
  refine va_get (D := D) (ci := 0) (v := iv wk) (C := RX0) (T := TX0) (N := 12) hx hb hts inX0 hown hK hP 0 rfl rfl 4 (by decide) w6 (fun _ h9 => h9) rfl dX0_lookAt_71 ?_
  refine lv_aload_n hx hb dX0_lookAt_74 rfl (lv_at hl 0 rfl) ?_
  refine va_get (D := D) (ci := 0) (v := iv gp) (C := RX0) (T := TX0) (N := 12) hx hb hts inX0 hown hK hP 0 rfl rfl 7 (by decide) w8 (fun _ h9 => h9) rfl dX0_lookAt_75 ?_
  refine ms_P (va_runVN (As := [iv wk, iv gp]) (rest := [iv wk, iv wks, .ref oa]) ⟨hx, hb, hml, hown, hts⟩ (mt_X2_waitFrom l D cI cS cJ h hd hp d k st md ps wk gp (by omega) (by omega) (by omega)) ⟨va_cnB 2 hts gX0_lookAt_X2_waitFrom_n57 rfl rfl rfl (hE.nw 30 rfl) w10 (by decide +kernel) ⟨Nat.le_of_ble_eq_true rfl, Nat.le_of_ble_eq_true rfl⟩, w11, w12⟩ (pc_V (ci := 2) (q0 := 0) hK (hP.sub (ws' := [(h, ob 2 [.ref hd, .ref hp, iv st, iv md, iv ps]), (hd, ar cI 5 d), (hp, ar cI 3 k)]) [7, 8, 9] rfl) rfl rfl (pcP_S hE hK (hP.sub (ws' := [(h, ob 2 [.ref hd, .ref hp, iv st, iv md, iv ps]), (hd, ar cI 5 d), (hp, ar cI 3 k)]) [7, 8, 9] rfl))) rfl rfl hl.1 rfl (lv_room (Nat.le_of_ble_eq_true rfl)) dX0_lookAt_78 ⟨Nat.le_of_ble_eq_true rfl, Nat.le_of_ble_eq_true rfl⟩) ?_
  have hwv : 0 ≤ wtv md gp wk ∧ wtv md gp wk ≤ 200 := by unfold wtv; omega
  refine i_iadd hx hb dX0_lookAt_81 ?_
  refine i_min hx hb (hml.trans hl.1.symm) hown w13 w14 w15 w16 ⟨Nat.le_of_ble_eq_true rfl, Nat.le_of_ble_eq_true rfl, Nat.le_of_ble_eq_true rfl, Nat.le_of_ble_eq_true rfl⟩ (Nat.le_of_ble_eq_true rfl) ⟨by omega, by omega⟩ ⟨by omega, by omega⟩ dX0_lookAt_82 ?_
  refine va_put (D := D) (ci := 0) (v := iv (min wks (wk + (wtv md gp wk)))) (ty := .int) (C := RX0) (T := TX0) (N := 12) hx hb hts inX0 tyX0 tyX0_ok nmX0 hown hK hP hD hS 0 rfl rfl 5 (by decide) w17 (fun _ h9 => h9) rfl (by decide +kernel) rfl rfl (Nat.le_of_ble_eq_true rfl) dX0_lookAt_85 (fun H locs hP hD hS => ?_)
  have hP : va_P D vwCl [(oa, ob 0 [.ref op, .ref od, .ref ow, .ref ol, iv wk, iv (min wks (wk + (wtv md gp wk))), iv wks, iv gp, iv rm, iv os, iv ok, iv ml]), (op, ar cI 5 pr), (od, ar cI 5 d), (ow, ar cI 3050 wo), (ol, ar cI 6 la), (sa, ob 1 [.ref sp, iv wks, iv wk, iv gp, iv rm, iv mv, iv tk]), (sp, ar cI 5 pr), (h, ob 2 [.ref hd, .ref hp, iv st, iv md, iv ps]), (hd, ar cI 5 d), (hp, ar cI 3 k)] H := hP
  have hD : va_D A [(oa, ob 0 [.ref op, .ref od, .ref ow, .ref ol, iv wk, iv (min wks (wk + (wtv md gp wk))), iv wks, iv gp, iv rm, iv os, iv ok, iv ml]), (op, ar cI 5 pr), (od, ar cI 5 d), (ow, ar cI 3050 wo), (ol, ar cI 6 la), (sa, ob 1 [.ref sp, iv wks, iv wk, iv gp, iv rm, iv mv, iv tk]), (sp, ar cI 5 pr), (h, ob 2 [.ref hd, .ref hp, iv st, iv md, iv ps]), (hd, ar cI 5 d), (hp, ar cI 3 k)] := hD
  refine lv_aload_n hx hb dX0_lookAt_88 rfl (lv_at hl 0 rfl) ?_
  refine lv_aload_n hx hb dX0_lookAt_89 rfl (lv_at hl 2 rfl) ?_
  refine va_getN (D := D) (ci := 2) (v := iv st) (C := RX2) (T := TX2) (N := 5) hx hb hts inX2 hown hK hP 7 rfl rfl 2 (by decide) (hE.at 15 rfl) (fun _ h9 => h9) rfl dX0_lookAt_90 ?_
  refine va_put (D := D) (ci := 0) (v := iv st) (ty := .int) (C := RX0) (T := TX0) (N := 12) hx hb hts inX0 tyX0 tyX0_ok nmX0 hown hK hP hD hS 0 rfl rfl 9 (by decide) w18 (fun _ h9 => h9) rfl (by decide +kernel) rfl rfl (Nat.le_of_ble_eq_true rfl) dX0_lookAt_93 (fun H locs hP hD hS => ?_)
  have hP : va_P D vwCl [(oa, ob 0 [.ref op, .ref od, .ref ow, .ref ol, iv wk, iv (min wks (wk + (wtv md gp wk))), iv wks, iv gp, iv rm, iv st, iv ok, iv ml]), (op, ar cI 5 pr), (od, ar cI 5 d), (ow, ar cI 3050 wo), (ol, ar cI 6 la), (sa, ob 1 [.ref sp, iv wks, iv wk, iv gp, iv rm, iv mv, iv tk]), (sp, ar cI 5 pr), (h, ob 2 [.ref hd, .ref hp, iv st, iv md, iv ps]), (hd, ar cI 5 d), (hp, ar cI 3 k)] H := hP
  have hD : va_D A [(oa, ob 0 [.ref op, .ref od, .ref ow, .ref ol, iv wk, iv (min wks (wk + (wtv md gp wk))), iv wks, iv gp, iv rm, iv st, iv ok, iv ml]), (op, ar cI 5 pr), (od, ar cI 5 d), (ow, ar cI 3050 wo), (ol, ar cI 6 la), (sa, ob 1 [.ref sp, iv wks, iv wk, iv gp, iv rm, iv mv, iv tk]), (sp, ar cI 5 pr), (h, ob 2 [.ref hd, .ref hp, iv st, iv md, iv ps]), (hd, ar cI 5 d), (hp, ar cI 3 k)] := hD
  refine lv_aload_n hx hb dX0_lookAt_96 rfl (lv_at hl 0 rfl) ?_
  refine lv_aload_n hx hb dX0_lookAt_97 rfl (lv_at hl 2 rfl) ?_
  refine ms_P (va_runVN (As := []) (rest := [.ref oa]) ⟨hx, hb, hml, hown, hts⟩ (mt_X2_wholeStock l D cI cS cJ h hd hp d k st md ps) ⟨va_cnB 0 hts gX0_lookAt_X2_wholeStock_n75 rfl rfl rfl (hE.nw 31 rfl) w10 (by decide +kernel) ⟨Nat.le_of_ble_eq_true rfl, Nat.le_of_ble_eq_true rfl⟩, w19, w20⟩ (pc_V (ci := 2) (q0 := 0) hK (hP.sub (ws' := [(h, ob 2 [.ref hd, .ref hp, iv st, iv md, iv ps]), (hd, ar cI 5 d), (hp, ar cI 3 k)]) [7, 8, 9] rfl) rfl rfl (pcP_S hE hK (hP.sub (ws' := [(h, ob 2 [.ref hd, .ref hp, iv st, iv md, iv ps]), (hd, ar cI 5 d), (hp, ar cI 3 k)]) [7, 8, 9] rfl))) rfl rfl hl.1 rfl (lv_room (Nat.le_of_ble_eq_true rfl)) dX0_lookAt_98 ⟨Nat.le_of_ble_eq_true rfl, Nat.le_of_ble_eq_true rfl⟩) ?_
  refine va_put (D := D) (ci := 0) (v := iv (whl k)) (ty := .int) (C := RX0) (T := TX0) (N := 12) hx hb hts inX0 tyX0 tyX0_ok nmX0 hown hK hP hD hS 0 rfl rfl 10 (by decide) w21 (fun _ h9 => h9) rfl (by decide +kernel) rfl rfl (Nat.le_of_ble_eq_true rfl) dX0_lookAt_101 (fun H locs hP hD hS => ?_)
  have hP : va_P D vwCl [(oa, ob 0 [.ref op, .ref od, .ref ow, .ref ol, iv wk, iv (min wks (wk + (wtv md gp wk))), iv wks, iv gp, iv rm, iv st, iv (whl k), iv ml]), (op, ar cI 5 pr), (od, ar cI 5 d), (ow, ar cI 3050 wo), (ol, ar cI 6 la), (sa, ob 1 [.ref sp, iv wks, iv wk, iv gp, iv rm, iv mv, iv tk]), (sp, ar cI 5 pr), (h, ob 2 [.ref hd, .ref hp, iv st, iv md, iv ps]), (hd, ar cI 5 d), (hp, ar cI 3 k)] H := hP
  have hD : va_D A [(oa, ob 0 [.ref op, .ref od, .ref ow, .ref ol, iv wk, iv (min wks (wk + (wtv md gp wk))), iv wks, iv gp, iv rm, iv st, iv (whl k), iv ml]), (op, ar cI 5 pr), (od, ar cI 5 d), (ow, ar cI 3050 wo), (ol, ar cI 6 la), (sa, ob 1 [.ref sp, iv wks, iv wk, iv gp, iv rm, iv mv, iv tk]), (sp, ar cI 5 pr), (h, ob 2 [.ref hd, .ref hp, iv st, iv md, iv ps]), (hd, ar cI 5 d), (hp, ar cI 3 k)] := hD
  have hW9 : WE D vwCl [(oa, ob 0 [.ref op, .ref od, .ref ow, .ref ol, iv wk, iv (min wks (wk + (wtv md gp wk))), iv wks, iv gp, iv rm, iv st, iv (whl k), iv ml]), (op, ar cI 5 pr), (od, ar cI 5 d), (ow, ar cI 3050 wo), (ol, ar cI 6 la), (sa, ob 1 [.ref sp, iv wks, iv wk, iv gp, iv rm, iv mv, iv tk]), (sp, ar cI 5 pr), (h, ob 2 [.ref hd, .ref hp, iv st, iv md, iv ps]), (hd, ar cI 5 d), (hp, ar cI 3 k)] [(oa, ob 0 [.ref op, .ref od, .ref ow, .ref ol, iv wk, iv (min wks (wk + wtv md gp wk)), iv wks, iv gp, iv rm, iv st, iv (whl k), iv ml]), (op, ar cI 5 pr), (od, ar cI 5 d), (ow, ar cI 3050 wo), (ol, ar cI 6 la), (sa, ob 1 [.ref sp, iv wks, iv wk, iv gp, iv rm, iv mv, iv tk]), (sp, ar cI 5 pr), (h, ob 2 [.ref hd, .ref hp, iv st, iv md, iv ps]), (hd, ar cI 5 d), (hp, ar cI 3 k)] := ⟨ce_of (by first | rfl | (simp; done)), ⟨ce_rf, ⟨ce_rf, ⟨ce_rf, ⟨ce_rf, ⟨ce_rf, ⟨ce_rf, ⟨ce_rf, ⟨ce_rf, ⟨ce_rf, trivial⟩⟩⟩⟩⟩⟩⟩⟩⟩⟩
  subst hQ
  exact r_Mv hx hb hr hlocks dX0_lookAt_104 hS (hW9.P (hP.sub (ws' := [(oa, ob 0 [.ref op, .ref od, .ref ow, .ref ol, iv wk, iv (min wks (wk + (wtv md gp wk))), iv wks, iv gp, iv rm, iv st, iv (whl k), iv ml]), (op, ar cI 5 pr), (od, ar cI 5 d), (ow, ar cI 3050 wo), (ol, ar cI 6 la), (sa, ob 1 [.ref sp, iv wks, iv wk, iv gp, iv rm, iv mv, iv tk]), (sp, ar cI 5 pr), (h, ob 2 [.ref hd, .ref hp, iv st, iv md, iv ps]), (hd, ar cI 5 d), (hp, ar cI 3 k)]) [0, 1, 2, 3, 4, 5, 6, 7, 8, 9] rfl)) (hW9.D (hD.sub (ws' := [(oa, ob 0 [.ref op, .ref od, .ref ow, .ref ol, iv wk, iv (min wks (wk + (wtv md gp wk))), iv wks, iv gp, iv rm, iv st, iv (whl k), iv ml]), (op, ar cI 5 pr), (od, ar cI 5 d), (ow, ar cI 3050 wo), (ol, ar cI 6 la), (sa, ob 1 [.ref sp, iv wks, iv wk, iv gp, iv rm, iv mv, iv tk]), (sp, ar cI 5 pr), (h, ob 2 [.ref hd, .ref hp, iv st, iv md, iv ps]), (hd, ar cI 5 d), (hp, ar cI 3 k)]) [0, 1, 2, 3, 4, 5, 6, 7, 8, 9] (by decide) rfl)) (⟨rfl, rfl⟩) (Nat.le_of_ble_eq_true rfl) (Nat.le_of_ble_eq_true rfl)

theorem fnd_in {f : Int → Int} {v : Int} : ∀ (n : Nat) {b i : Int}, b ≤ i → i < b + n → f i = v → b + n ≤ 5 → b ≤ fnd f v b n ∧ fnd f v b n < 5 := by
  intro n
  induction n with
  | zero => intro b i h1 h2; omega
  | succ n ih =>
    intro b i h1 h2 h3 h4
    show b ≤ (if f b = v then b else fnd f v (b + 1) n) ∧ (if f b = v then b else fnd f v (b + 1) n) < 5
    by_cases hb : f b = v
    · rw [if_pos hb]; omega
    · rw [if_neg hb]
      have hne : b ≠ i := fun h => hb (by rw [h]; exact h3)
      have := ih (b := b + 1) (i := i) (by omega) (by omega) h3 (by omega)
      omega

abbrev rm_X0_bestStepIn : Room := { frames := 6, cells := 0, slots := 0, locals := 145 }
set_option maxHeartbeats 4000000 in
set_option maxRecDepth 100000 in
/-- the step of a week in the best plan -/
theorem mt_X0_bestStepIn (l : Launch) (D : va_G) (cI cS cJ : ClassId) (oa : Nat) (op : Nat) (od : Nat) (ow : Nat) (ol : Nat) (pr : Int → Int) (sd : Int → Int) (wo : Int → Int) (la : Int → Int) (fw : Int) (fr : Int) (ew : Int) (gp : Int) (rm : Int) (os : Int) (ok : Int) (ml : Int) (wk : Int) (hB : PB pr sd fw fr ew gp rm os ok) (hwk : fw ≤ wk ∧ wk < ew) : cM l yX0_bestStepIn wsX0_bestStepIn rm_X0_bestStepIn [.ref oa, iv wk] D (tyL cI cS cJ) [(oa, ob 0 [.ref op, .ref od, .ref ow, .ref ol, iv fw, iv fr, iv ew, iv gp, iv rm, iv os, iv ok, iv ml]), (op, ar cI 5 pr), (od, ar cI 5 sd), (ow, ar cI 3050 wo), (ol, ar cI 6 la)] (fun r_ w_ => ∃ wo2 : Int → Int, r_ = some (iv ((pst pr sd gp rm 60 (ew - fw).toNat os (fr - fw) ok (wk - fw + 1).toNat).1)) ∧ w_ = [(oa, ob 0 [.ref op, .ref od, .ref ow, .ref ol, iv fw, iv fr, iv ew, iv gp, iv rm, iv os, iv ok, iv 60]), (op, ar cI 5 pr), (od, ar cI 5 sd), (ow, ar cI 3050 wo2), (ol, ar cI 6 la)]) 0 0 := by
  refine en_M (cc := cX0_bestStepIn) (maxL := 7) (ret := (some .int)) (by decide) rfl (Nat.le_of_ble_eq_true rfl) ?_
  intro p e s m args below meth c ls A hX hE hP hK hD hS hA hl Q hQ
  obtain ⟨hx, hb, hr, hml, hts, hown, hlocks, hnm⟩ := hX
  have hown : s.vm.findClass RX0 = some m.cls := hown
  have hl : lv_has ls 7 [(0, .ref oa), (1, iv wk)] := hl
  have inX0 : ∀ w ∈ u_ws RX0 TX0 12, w ∈ wsX0_bestStepIn := by decide +kernel
  have w0 : (Cond.fieldLink RX0 72 RX0 "ownStep" "I").before args s = true := hts _ (by decide +kernel)
  have w1 : (Cond.fieldLink RX0 79 RX0 "ownStock" "I").before args s = true := hts _ (by decide +kernel)
  have w2 : (Cond.fieldLink RX0 66 RX0 "freeWeek" "I").before args s = true := hts _ (by decide +kernel)
  have w3 : (Cond.fieldLink RX0 40 RX0 "firstWeek" "I").before args s = true := hts _ (by decide +kernel)
  have w4 : (Cond.fieldLink RX0 15 RX0 "demands" "[I").before args s = true := hts _ (by decide +kernel)
  have w5 : (Cond.methodLink RX0 61 Lib.Math.min.name).before args s = true := hts _ (by decide +kernel)
  have w6 : (Cond.static Lib.Math.min.name).before args s = true := hts _ (by decide +kernel)
  have w7 : (Cond.initialized "java/lang/Math").before args s = true := hts _ (by decide +kernel)
  have w8 : (Cond.code Lib.Math.min.name Lib.Math.min.code 2 (some .int)).before args s = true := hts _ (by decide +kernel)
  have w9 : (Cond.fieldLink RX0 52 RX0 "gap" "I").before args s = true := hts _ (by decide +kernel)
  obtain ⟨hfw, hfr, hgp, hrm, hos, hok, hpr, hsd⟩ := id hB
  have hd0 : ∀ j : Int, 0 ≤ j → j < 5 → 0 ≤ sd j := fun j a b => (hsd j a b).1
  have hp0 : ∀ j : Int, 0 ≤ j → j < 5 → 0 ≤ pr j := fun j a b => (hpr j a b).1
  refine lv_aload_n hx hb dX0_bestStepIn_0 rfl (lv_at hl 0 rfl) ?_
  refine lv_bipush (v := zI 60) hx hb dX0_bestStepIn_1 (by decide) ?_
  refine ms_M (wc := [(oa, ob 0 [.ref op, .ref od, .ref ow, .ref ol, iv fw, iv fr, iv ew, iv gp, iv rm, iv os, iv ok, iv ml]), (op, ar cI 5 pr), (od, ar cI 5 sd), (ow, ar cI 3050 wo), (ol, ar cI 6 la)]) (wr := []) (va_runV (As := [iv 60]) (rest := []) ⟨hx, hb, hml, hown, hts⟩ ((mt_X0_tellWorths l D cI cS cJ oa op od ow ol pr sd wo la fw fr ew gp rm os ok ml 60 (hB) (⟨by decide, by decide⟩)) s.heap.size) (cwV 1 hts gX0_bestStepIn_X0_tellWorths rfl rfl rfl (by decide +kernel) ⟨Nat.le_of_ble_eq_true rfl, Nat.le_of_ble_eq_true rfl⟩) (pc_V (ci := 0) (q0 := 0) hK (hP.sub (ws' := [(oa, ob 0 [.ref op, .ref od, .ref ow, .ref ol, iv fw, iv fr, iv ew, iv gp, iv rm, iv os, iv ok, iv ml]), (op, ar cI 5 pr), (od, ar cI 5 sd), (ow, ar cI 3050 wo), (ol, ar cI 6 la)]) [0, 1, 2, 3, 4] rfl) rfl rfl (pcM_S hE hK (hP.sub (ws' := [(oa, ob 0 [.ref op, .ref od, .ref ow, .ref ol, iv fw, iv fr, iv ew, iv gp, iv rm, iv os, iv ok, iv ml]), (op, ar cI 5 pr), (od, ar cI 5 sd), (ow, ar cI 3050 wo), (ol, ar cI 6 la)]) [0, 1, 2, 3, 4] rfl) (hD.sub (ws' := [(oa, ob 0 [.ref op, .ref od, .ref ow, .ref ol, iv fw, iv fr, iv ew, iv gp, iv rm, iv os, iv ok, iv ml]), (op, ar cI 5 pr), (od, ar cI 5 sd), (ow, ar cI 3050 wo), (ol, ar cI 6 la)]) [0, 1, 2, 3, 4] (by decide) rfl))) rfl rfl hl.1 rfl (lv_room (Nat.le_of_ble_eq_true rfl)) dX0_bestStepIn_3 ⟨Nat.le_of_ble_eq_true rfl, Nat.le_of_ble_eq_true rfl⟩) hP hD hS hA [0, 1, 2, 3, 4] [] rfl rfl (by decide) (by decide) (fun r_ w_ H locs hq_ hP hD hS => ?_)
  obtain ⟨wo2_1, hf_2, rfl, rfl⟩ := hq_
  have hP : va_P D vwCl [(oa, ob 0 [.ref op, .ref od, .ref ow, .ref ol, iv fw, iv fr, iv ew, iv gp, iv rm, iv os, iv ok, iv 60]), (op, ar cI 5 pr), (od, ar cI 5 sd), (ow, ar cI 3050 wo2_1), (ol, ar cI 6 la)] H := hP
  have hD : va_D A [(oa, ob 0 [.ref op, .ref od, .ref ow, .ref ol, iv fw, iv fr, iv ew, iv gp, iv rm, iv os, iv ok, iv 60]), (op, ar cI 5 pr), (od, ar cI 5 sd), (ow, ar cI 3050 wo2_1), (ol, ar cI 6 la)] := hD
  have hf_2 : GW pr sd gp rm 60 ew os ok wo2_1 fr := hf_2
  have hG := hf_2
  refine lv_aload_n hx hb dX0_bestStepIn_6 rfl (lv_at hl 0 rfl) ?_
  refine va_get (D := D) (ci := 0) (v := iv os) (C := RX0) (T := TX0) (N := 12) hx hb hts inX0 hown hK hP 0 rfl rfl 9 (by decide) w0 (fun _ h9 => h9) rfl dX0_bestStepIn_7 ?_
  refine lv_istore_n (lv' := [(2, iv os), (0, .ref oa), (1, iv wk)]) hx hb dX0_bestStepIn_10 rfl hl (by decide) rfl (fun ls hl => ?_)
  refine lv_aload_n hx hb dX0_bestStepIn_11 rfl (lv_at hl 1 rfl) ?_
  refine va_get (D := D) (ci := 0) (v := iv ok) (C := RX0) (T := TX0) (N := 12) hx hb hts inX0 hown hK hP 0 rfl rfl 10 (by decide) w1 (fun _ h9 => h9) rfl dX0_bestStepIn_12 ?_
  refine lv_istore_n (lv' := [(3, iv ok), (2, iv os), (0, .ref oa), (1, iv wk)]) hx hb dX0_bestStepIn_15 rfl hl (by decide) rfl (fun ls hl => ?_)
  refine lv_aload_n hx hb dX0_bestStepIn_16 rfl (lv_at hl 2 rfl) ?_
  refine va_get (D := D) (ci := 0) (v := iv fr) (C := RX0) (T := TX0) (N := 12) hx hb hts inX0 hown hK hP 0 rfl rfl 5 (by decide) w2 (fun _ h9 => h9) rfl dX0_bestStepIn_17 ?_
  refine lv_istore (lv' := [(4, iv fr), (3, iv ok), (2, iv os), (0, .ref oa), (1, iv wk)]) hx hb dX0_bestStepIn_20 hl (by decide) rfl (fun ls hl => ?_)
  refine lv_aload_n hx hb dX0_bestStepIn_22 rfl (lv_at hl 3 rfl) ?_
  refine va_get (D := D) (ci := 0) (v := iv fw) (C := RX0) (T := TX0) (N := 12) hx hb hts inX0 hown hK hP 0 rfl rfl 4 (by decide) w3 (fun _ h9 => h9) rfl dX0_bestStepIn_23 ?_
  refine lv_istore (lv' := [(5, iv fw), (4, iv fr), (3, iv ok), (2, iv os), (0, .ref oa), (1, iv wk)]) hx hb dX0_bestStepIn_26 hl (by decide) rfl (fun ls hl => ?_)
  have J_28 : ∀ (n_28 : Nat) (nw : Int) (sp : Int) (lf : Int) (fe : Int) (hnw : fw ≤ nw ∧ nw ≤ wk + 1) (hsp : os ≤ sp ∧ sp < 5) (hlf : 0 ≤ lf ∧ lf ≤ ok) (hfe : fr ≤ fe ∧ fe ≤ 100) (hps : (pst pr sd gp rm 60 (ew - fw).toNat os (fr - fw) ok (nw - fw).toNat) = (sp, max 0 (fe - nw), lf)) (hm_28 : ((wk + 1 - nw).toNat) < n_28) (ls : Array Slot) (hl : lv_has ls 7 [(0, .ref oa), (1, iv wk), (2, iv sp), (3, iv lf), (4, iv fe), (5, iv nw)]), W p l e rm_X0_bestStepIn s m args below meth c H locs (0 + 0) (0 + 0) Q (F0 m 28 ls []) := by
    intro n_28
    induction n_28 with
    | zero => intro nw sp lf fe hnw hsp hlf hfe hps hm_28 ls hl; exact absurd hm_28 (Nat.not_lt_zero _)
    | succ n_28 ih_28 =>
      intro nw sp lf fe hnw hsp hlf hfe hps hm_28 ls hl
      have hn1 : (ew - fw).toNat - (nw - fw).toNat = (ew - nw).toNat := by omega
      refine lv_iload hx hb dX0_bestStepIn_28 (lv_at hl 5 rfl) ?_
      refine lv_iload_n hx hb dX0_bestStepIn_30 rfl (lv_at hl 1 rfl) ?_
      refine i_icmp_gt (tgt := 93) hx hb ⟨by omega, by omega⟩ ⟨by omega, by omega⟩ dX0_bestStepIn_31 (by decide) (fun c_3 => ?_) (fun c_3 => ?_)
      · skip
        refine lv_iload_n hx hb dX0_bestStepIn_93 rfl (lv_at hl 2 rfl) ?_
        refine i_eqz (y := (pst pr sd gp rm 60 (ew - fw).toNat os (fr - fw) ok (wk - fw + 1).toNat).1) (by rw [show (wk - fw + 1).toNat = (nw - fw).toNat by omega, hps]) ?_
        subst hQ
        exact r_Mi hx hb hr hlocks (by first | rfl | decide) dX0_bestStepIn_94 hS (hP.sub (ws' := [(oa, ob 0 [.ref op, .ref od, .ref ow, .ref ol, iv fw, iv fr, iv ew, iv gp, iv rm, iv os, iv ok, iv 60]), (op, ar cI 5 pr), (od, ar cI 5 sd), (ow, ar cI 3050 wo2_1), (ol, ar cI 6 la)]) [0, 1, 2, 3, 4] rfl) (hD.sub (ws' := [(oa, ob 0 [.ref op, .ref od, .ref ow, .ref ol, iv fw, iv fr, iv ew, iv gp, iv rm, iv os, iv ok, iv 60]), (op, ar cI 5 pr), (od, ar cI 5 sd), (ow, ar cI 3050 wo2_1), (ol, ar cI 6 la)]) [0, 1, 2, 3, 4] (by decide) rfl) (⟨wo2_1, rfl, rfl⟩) (Nat.le_of_ble_eq_true rfl) (Nat.le_of_ble_eq_true rfl)
      · skip
        refine lv_iload hx hb dX0_bestStepIn_34 (lv_at hl 5 rfl) ?_
        refine lv_iload hx hb dX0_bestStepIn_36 (lv_at hl 4 rfl) ?_
        refine i_icmp_lt (tgt := 74) hx hb ⟨by omega, by omega⟩ ⟨by omega, by omega⟩ dX0_bestStepIn_38 (by decide) (fun c_4 => ?_) (fun c_4 => ?_)
        · skip
          have hfi := fnd_wait (pr := pr) (d := sd) (g := gp) (r := rm) (ml := 60) hd0 hp0 hrm.1 (ew - nw - 1).toNat (b := sp) (w := max 0 (fe - nw)) (l := lf) (by omega) (by omega) (by omega) hlf.1
          rw [show (ew - nw - 1).toNat + 1 = (ew - nw).toNat by omega] at hfi
          have hsd1 := hsd sp (by omega) (by omega)
          have hpn : pst pr sd gp rm 60 (ew - fw).toNat os (fr - fw) ok (nw + 1 - fw).toNat = (sp, max 0 (fe - (nw + 1)), lf - min lf (sd sp)) := by
            rw [show (nw + 1 - fw).toNat = (nw - fw).toNat + 1 by omega]
            unfold pst
            rw [hps, hn1]
            simp only []
            rw [show (ew - nw).toNat - 1 = (ew - nw - 1).toNat by omega, hfi, if_neg (show ¬ sp < sp by omega), if_pos (show 0 < max 0 (fe - nw) by omega)]
            rw [show max 0 (fe - nw) - 1 = max 0 (fe - (nw + 1)) by omega, show min (sd sp) lf = min lf (sd sp) by omega]
          refine lv_iload_n hx hb dX0_bestStepIn_74 rfl (lv_at hl 3 rfl) ?_
          refine lv_iload_n hx hb dX0_bestStepIn_75 rfl (lv_at hl 3 rfl) ?_
          refine lv_aload_n hx hb dX0_bestStepIn_76 rfl (lv_at hl 0 rfl) ?_
          refine va_get (D := D) (ci := 0) (v := .ref od) (C := RX0) (T := TX0) (N := 12) hx hb hts inX0 hown hK hP 0 rfl rfl 1 (by decide) w4 (fun _ h9 => h9) rfl dX0_bestStepIn_77 ?_
          refine lv_iload_n hx hb dX0_bestStepIn_80 rfl (lv_at hl 2 rfl) ?_
          refine i_iald hx hb hK hP 2 0 rfl rfl (by omega) (by omega) (by decide) dX0_bestStepIn_81 ?_
          refine i_min hx hb (hml.trans hl.1.symm) hown w5 w6 w7 w8 ⟨Nat.le_of_ble_eq_true rfl, Nat.le_of_ble_eq_true rfl, Nat.le_of_ble_eq_true rfl, Nat.le_of_ble_eq_true rfl⟩ (Nat.le_of_ble_eq_true rfl) ⟨by omega, by omega⟩ ⟨by omega, by omega⟩ dX0_bestStepIn_82 ?_
          refine i_isub hx hb dX0_bestStepIn_85 ?_
          refine lv_istore_n (lv' := [(3, iv (lf - (min lf (sd sp)))), (0, .ref oa), (1, iv wk), (2, iv sp), (4, iv fe), (5, iv nw)]) hx hb dX0_bestStepIn_86 rfl hl (by decide) rfl (fun ls hl => ?_)
          refine i_iinc (n := 1) (lv' := [(5, iv (nw + 1)), (3, iv (lf - (min lf (sd sp)))), (0, .ref oa), (1, iv wk), (2, iv sp), (4, iv fe)]) hx hb dX0_bestStepIn_87 hl (k := 5) rfl (by decide) rfl (fun ls hl => ?_)
          refine lv_goto (tgt := 28) hx hb dX0_bestStepIn_90 (by decide) ?_
          exact ih_28 (nw + 1) sp (lf - (min lf (sd sp))) fe (by omega) (by omega) (by omega) (by omega) (hpn) (by omega) ls (lv_sub hl [2, 3, 4, 1, 5, 0] rfl)
        · skip
          have hne9 : pv pr sd gp rm 60 (ew - nw).toNat sp 0 lf ≠ -1 := by have := pv_pos (pr := pr) (d := sd) (g := gp) (r := rm) (ml := 60) hd0 hp0 hrm.1 (ew - nw).toNat sp 0 lf (by omega) (by omega) hlf.1 (by omega); omega
          have hG3 := hG.mono (show fr ≤ nw by omega)
          refine lv_aload_n hx hb dX0_bestStepIn_41 rfl (lv_at hl 0 rfl) ?_
          refine lv_iload hx hb dX0_bestStepIn_42 (lv_at hl 5 rfl) ?_
          refine lv_iload_n hx hb dX0_bestStepIn_44 rfl (lv_at hl 2 rfl) ?_
          refine lv_iload_n hx hb dX0_bestStepIn_45 rfl (lv_at hl 3 rfl) ?_
          refine ms_P (va_runV (As := [iv nw, iv sp, iv lf]) (rest := []) ⟨hx, hb, hml, hown, hts⟩ (mt_X0_lowestBestStep l D cI cS cJ oa op od ow ol pr sd wo2_1 la fw fr ew gp rm os ok 60 nw sp lf (hB) (⟨by decide, by decide⟩) (hG3) (by omega) (by omega) (by omega) (hne9)) (cwV 3 hts gX0_bestStepIn_X0_lowestBestStep rfl rfl rfl (by decide +kernel) ⟨Nat.le_of_ble_eq_true rfl, Nat.le_of_ble_eq_true rfl⟩) (pc_V (ci := 0) (q0 := 0) hK (hP.sub (ws' := [(oa, ob 0 [.ref op, .ref od, .ref ow, .ref ol, iv fw, iv fr, iv ew, iv gp, iv rm, iv os, iv ok, iv 60]), (op, ar cI 5 pr), (od, ar cI 5 sd), (ow, ar cI 3050 wo2_1), (ol, ar cI 6 la)]) [0, 1, 2, 3, 4] rfl) rfl rfl (pcP_S hE hK (hP.sub (ws' := [(oa, ob 0 [.ref op, .ref od, .ref ow, .ref ol, iv fw, iv fr, iv ew, iv gp, iv rm, iv os, iv ok, iv 60]), (op, ar cI 5 pr), (od, ar cI 5 sd), (ow, ar cI 3050 wo2_1), (ol, ar cI 6 la)]) [0, 1, 2, 3, 4] rfl))) rfl rfl hl.1 rfl (lv_room (Nat.le_of_ble_eq_true rfl)) dX0_bestStepIn_46 ⟨Nat.le_of_ble_eq_true rfl, Nat.le_of_ble_eq_true rfl⟩) ?_
          refine i_name (fun nx hnx => ?_)
          obtain ⟨i9, z1, z2, z3⟩ := pv_ex (ew - nw - 1).toNat (show sp < 5 by omega) (show pv pr sd gp rm 60 ((ew - nw - 1).toNat + 1) sp 0 lf ≠ -1 by rw [show (ew - nw - 1).toNat + 1 = (ew - nw).toNat by omega]; exact hne9)
          rw [show (ew - nw - 1).toNat + 1 = (ew - nw).toNat by omega] at z3
          have hnb : sp ≤ nx ∧ nx < 5 := by rw [hnx]; exact fnd_in _ z1 (by omega) z3 (by omega)
          refine lv_istore (lv' := [(6, iv nx), (0, .ref oa), (1, iv wk), (2, iv sp), (3, iv lf), (4, iv fe), (5, iv nw)]) hx hb dX0_bestStepIn_49 hl (by decide) rfl (fun ls hl => ?_)
          refine lv_iload hx hb dX0_bestStepIn_51 (lv_at hl 0 rfl) ?_
          refine lv_iload_n hx hb dX0_bestStepIn_53 rfl (lv_at hl 3 rfl) ?_
          refine i_icmp_le (tgt := 67) hx hb ⟨by omega, by omega⟩ ⟨by omega, by omega⟩ dX0_bestStepIn_54 (by decide) (fun c_5 => ?_) (fun c_5 => ?_)
          · skip
            have hsd1 := hsd nx (by omega) (by omega)
            have hpn : pst pr sd gp rm 60 (ew - fw).toNat os (fr - fw) ok (nw + 1 - fw).toNat = (nx, max 0 (fe - (nw + 1)), lf - min lf (sd nx)) := by
              rw [show (nw + 1 - fw).toNat = (nw - fw).toNat + 1 by omega]
              unfold pst
              rw [hps, hn1, show max 0 (fe - nw) = 0 by omega]
              simp only []
              rw [show (ew - nw).toNat - 1 = (ew - nw - 1).toNat by omega, ← hnx, if_neg (show ¬ sp < nx by omega), if_neg (show ¬ (0 : Int) < 0 by omega)]
              rw [show min (sd nx) lf = min lf (sd nx) by omega]
              exact congrArg (fun z : Int => (nx, z, lf - min lf (sd nx))) (show (0 : Int) = max 0 (fe - (nw + 1)) by omega)
            refine lv_iload hx hb dX0_bestStepIn_67 (lv_at hl 5 rfl) ?_
            refine lv_istore (lv' := [(4, iv fe), (6, iv nx), (0, .ref oa), (1, iv wk), (2, iv sp), (3, iv lf), (5, iv nw)]) hx hb dX0_bestStepIn_69 hl (by decide) rfl (fun ls hl => ?_)
            refine lv_iload hx hb dX0_bestStepIn_71 (lv_at hl 1 rfl) ?_
            refine lv_istore_n (lv' := [(2, iv nx), (4, iv fe), (6, iv nx), (0, .ref oa), (1, iv wk), (3, iv lf), (5, iv nw)]) hx hb dX0_bestStepIn_73 rfl hl (by decide) rfl (fun ls hl => ?_)
            refine lv_iload_n hx hb dX0_bestStepIn_74 rfl (lv_at hl 5 rfl) ?_
            refine lv_iload_n hx hb dX0_bestStepIn_75 rfl (lv_at hl 5 rfl) ?_
            refine lv_aload_n hx hb dX0_bestStepIn_76 rfl (lv_at hl 3 rfl) ?_
            refine va_get (D := D) (ci := 0) (v := .ref od) (C := RX0) (T := TX0) (N := 12) hx hb hts inX0 hown hK hP 0 rfl rfl 1 (by decide) w4 (fun _ h9 => h9) rfl dX0_bestStepIn_77 ?_
            refine lv_iload_n hx hb dX0_bestStepIn_80 rfl (lv_at hl 0 rfl) ?_
            refine i_iald hx hb hK hP 2 0 rfl rfl (by omega) (by omega) (by decide) dX0_bestStepIn_81 ?_
            refine i_min hx hb (hml.trans hl.1.symm) hown w5 w6 w7 w8 ⟨Nat.le_of_ble_eq_true rfl, Nat.le_of_ble_eq_true rfl, Nat.le_of_ble_eq_true rfl, Nat.le_of_ble_eq_true rfl⟩ (Nat.le_of_ble_eq_true rfl) ⟨by omega, by omega⟩ ⟨by omega, by omega⟩ dX0_bestStepIn_82 ?_
            refine i_isub hx hb dX0_bestStepIn_85 ?_
            refine lv_istore_n (lv' := [(3, iv (lf - (min lf (sd nx)))), (2, iv nx), (4, iv fe), (6, iv nx), (0, .ref oa), (1, iv wk), (5, iv nw)]) hx hb dX0_bestStepIn_86 rfl hl (by decide) rfl (fun ls hl => ?_)
            refine i_iinc (n := 1) (lv' := [(5, iv (nw + 1)), (3, iv (lf - (min lf (sd nx)))), (2, iv nx), (4, iv fe), (6, iv nx), (0, .ref oa), (1, iv wk)]) hx hb dX0_bestStepIn_87 hl (k := 6) rfl (by decide) rfl (fun ls hl => ?_)
            refine lv_goto (tgt := 28) hx hb dX0_bestStepIn_90 (by decide) ?_
            exact ih_28 (nw + 1) nx (lf - (min lf (sd nx))) fe (by omega) (by omega) (by omega) (by omega) (hpn) (by omega) ls (lv_sub hl [5, 6, 2, 1, 3, 0] rfl)
          · skip
            have hsd1 := hsd nx (by omega) (by omega)
            have hpn : pst pr sd gp rm 60 (ew - fw).toNat os (fr - fw) ok (nw + 1 - fw).toNat = (nx, max 0 (nw + gp - (nw + 1)), lf - min lf (sd nx)) := by
              rw [show (nw + 1 - fw).toNat = (nw - fw).toNat + 1 by omega]
              unfold pst
              rw [hps, hn1, show max 0 (fe - nw) = 0 by omega]
              simp only []
              rw [show (ew - nw).toNat - 1 = (ew - nw - 1).toNat by omega, ← hnx, if_pos (show sp < nx by omega)]
              rw [show min (sd nx) lf = min lf (sd nx) by omega]
              exact congrArg (fun z : Int => (nx, z, lf - min lf (sd nx))) (show gp - 1 = max 0 (nw + gp - (nw + 1)) by omega)
            refine lv_iload hx hb dX0_bestStepIn_57 (lv_at hl 6 rfl) ?_
            refine lv_aload_n hx hb dX0_bestStepIn_59 rfl (lv_at hl 1 rfl) ?_
            refine va_get (D := D) (ci := 0) (v := iv gp) (C := RX0) (T := TX0) (N := 12) hx hb hts inX0 hown hK hP 0 rfl rfl 7 (by decide) w9 (fun _ h9 => h9) rfl dX0_bestStepIn_60 ?_
            refine i_iadd hx hb dX0_bestStepIn_63 ?_
            refine lv_goto (tgt := 69) hx hb dX0_bestStepIn_64 (by decide) ?_
            refine lv_istore (lv' := [(4, iv (nw + gp)), (6, iv nx), (0, .ref oa), (1, iv wk), (2, iv sp), (3, iv lf), (5, iv nw)]) hx hb dX0_bestStepIn_69 hl (by decide) rfl (fun ls hl => ?_)
            refine lv_iload hx hb dX0_bestStepIn_71 (lv_at hl 1 rfl) ?_
            refine lv_istore_n (lv' := [(2, iv nx), (4, iv (nw + gp)), (6, iv nx), (0, .ref oa), (1, iv wk), (3, iv lf), (5, iv nw)]) hx hb dX0_bestStepIn_73 rfl hl (by decide) rfl (fun ls hl => ?_)
            refine lv_iload_n hx hb dX0_bestStepIn_74 rfl (lv_at hl 5 rfl) ?_
            refine lv_iload_n hx hb dX0_bestStepIn_75 rfl (lv_at hl 5 rfl) ?_
            refine lv_aload_n hx hb dX0_bestStepIn_76 rfl (lv_at hl 3 rfl) ?_
            refine va_get (D := D) (ci := 0) (v := .ref od) (C := RX0) (T := TX0) (N := 12) hx hb hts inX0 hown hK hP 0 rfl rfl 1 (by decide) w4 (fun _ h9 => h9) rfl dX0_bestStepIn_77 ?_
            refine lv_iload_n hx hb dX0_bestStepIn_80 rfl (lv_at hl 0 rfl) ?_
            refine i_iald hx hb hK hP 2 0 rfl rfl (by omega) (by omega) (by decide) dX0_bestStepIn_81 ?_
            refine i_min hx hb (hml.trans hl.1.symm) hown w5 w6 w7 w8 ⟨Nat.le_of_ble_eq_true rfl, Nat.le_of_ble_eq_true rfl, Nat.le_of_ble_eq_true rfl, Nat.le_of_ble_eq_true rfl⟩ (Nat.le_of_ble_eq_true rfl) ⟨by omega, by omega⟩ ⟨by omega, by omega⟩ dX0_bestStepIn_82 ?_
            refine i_isub hx hb dX0_bestStepIn_85 ?_
            refine lv_istore_n (lv' := [(3, iv (lf - (min lf (sd nx)))), (2, iv nx), (4, iv (nw + gp)), (6, iv nx), (0, .ref oa), (1, iv wk), (5, iv nw)]) hx hb dX0_bestStepIn_86 rfl hl (by decide) rfl (fun ls hl => ?_)
            refine i_iinc (n := 1) (lv' := [(5, iv (nw + 1)), (3, iv (lf - (min lf (sd nx)))), (2, iv nx), (4, iv (nw + gp)), (6, iv nx), (0, .ref oa), (1, iv wk)]) hx hb dX0_bestStepIn_87 hl (k := 6) rfl (by decide) rfl (fun ls hl => ?_)
            refine lv_goto (tgt := 28) hx hb dX0_bestStepIn_90 (by decide) ?_
            exact ih_28 (nw + 1) nx (lf - (min lf (sd nx))) (nw + gp) (by omega) (by omega) (by omega) (by omega) (hpn) (by omega) ls (lv_sub hl [5, 6, 2, 1, 3, 0] rfl)
  exact J_28 _ fw os ok fr (by omega) (by omega) (by omega) (by omega) (by rw [show (fw - fw).toNat = 0 by omega, show max 0 (fr - fw) = fr - fw by omega]; rfl) (Nat.lt_succ_self _) ls (lv_sub hl [4, 5, 3, 2, 1, 0] rfl)

abbrev rm_X0_turnToNextLadder : Room := { frames := 0, cells := 0, slots := 0, locals := 0 }
set_option maxHeartbeats 4000000 in
set_option maxRecDepth 100000 in
/-- the next ladder, if there is one -/
theorem mt_X0_turnToNextLadder (l : Launch) (D : va_G) (cI cS cJ : ClassId) (oa : Nat) (op : Nat) (od : Nat) (ow : Nat) (ol : Nat) (pr : Int → Int) (sd : Int → Int) (wo : Int → Int) (la : Int → Int) (fw : Int) (fr : Int) (ew : Int) (gp : Int) (rm : Int) (os : Int) (ok : Int) (ml : Int) (wks : Int) (hwks : 0 ≤ wks ∧ wks ≤ 6) (hla : LA la wks) : cM l yX0_turnToNextLadder wsX0_turnToNextLadder rm_X0_turnToNextLadder [.ref oa, iv wks] D (tyL cI cS cJ) [(oa, ob 0 [.ref op, .ref od, .ref ow, .ref ol, iv fw, iv fr, iv ew, iv gp, iv rm, iv os, iv ok, iv ml]), (op, ar cI 5 pr), (od, ar cI 5 sd), (ow, ar cI 3050 wo), (ol, ar cI 6 la)] (fun r_ w_ => ∃ rv : Int, ∃ la2 : Int → Int, ((rv = 0 ∧ la2 = la ∧ ∀ j : Int, 0 ≤ j → j < wks → la j = 4) ∨ (rv = 1 ∧ ∃ t : Int, LN la la2 wks t)) ∧ r_ = some (iv rv) ∧ w_ = [(oa, ob 0 [.ref op, .ref od, .ref ow, .ref ol, iv fw, iv fr, iv ew, iv gp, iv rm, iv os, iv ok, iv ml]), (op, ar cI 5 pr), (od, ar cI 5 sd), (ow, ar cI 3050 wo), (ol, ar cI 6 la2)]) 0 0 := by
  refine en_M (cc := cX0_turnToNextLadder) (maxL := 5) (ret := (some .boolean)) (by decide) rfl (Nat.le_of_ble_eq_true rfl) ?_
  intro p e s m args below meth c ls A hX hE hP hK hD hS hA hl Q hQ
  obtain ⟨hx, hb, hr, hml, hts, hown, hlocks, hnm⟩ := hX
  have hown : s.vm.findClass RX0 = some m.cls := hown
  have hl : lv_has ls 5 [(0, .ref oa), (1, iv wks)] := hl
  have inX0 : ∀ w ∈ u_ws RX0 TX0 12, w ∈ wsX0_turnToNextLadder := by decide +kernel
  have w0 : (Cond.fieldLink RX0 21 RX0 "ladder" "[I").before args s = true := hts _ (by decide +kernel)
  refine lv_iload_n hx hb dX0_turnToNextLadder_0 rfl (lv_at hl 1 rfl) ?_
  refine lv_iconst (v := zI 1) hx hb dX0_turnToNextLadder_1 rfl ?_
  refine i_isub hx hb dX0_turnToNextLadder_2 ?_
  refine lv_istore_n (lv' := [(2, iv (wks - 1)), (0, .ref oa), (1, iv wks)]) hx hb dX0_turnToNextLadder_3 rfl hl (by decide) rfl (fun ls hl => ?_)
  have J_4 : ∀ (n_4 : Nat) (tt : Int) (htt : -1 ≤ tt ∧ tt < wks) (h4 : ∀ j : Int, tt < j → j < wks → la j = 4) (hm_4 : ((tt + 1).toNat) < n_4) (ls : Array Slot) (hl : lv_has ls 5 [(0, .ref oa), (1, iv wks), (2, iv tt)]), W p l e rm_X0_turnToNextLadder s m args below meth c s.heap [] 0 0 Q (F0 m 4 ls []) := by
    intro n_4
    induction n_4 with
    | zero => intro tt htt h4 hm_4 ls hl; exact absurd hm_4 (Nat.not_lt_zero _)
    | succ n_4 ih_4 =>
      intro tt htt h4 hm_4 ls hl
      refine lv_iload_n hx hb dX0_turnToNextLadder_4 rfl (lv_at hl 2 rfl) ?_
      refine i_if_lt (tgt := 24) hx hb ⟨by omega, by omega⟩ dX0_turnToNextLadder_5 (by decide) (fun c_1 => ?_) (fun c_1 => ?_)
      · skip
        refine lv_iload_n hx hb dX0_turnToNextLadder_24 rfl (lv_at hl 2 rfl) ?_
        refine i_if_ge (tgt := 30) hx hb ⟨by omega, by omega⟩ dX0_turnToNextLadder_25 (by decide) (fun c_2 => ?_) (fun c_2 => ?_)
        · skip
          refine lv_aload_n hx hb dX0_turnToNextLadder_30 rfl (lv_at hl 0 rfl) ?_
          refine va_get (D := D) (ci := 0) (v := .ref ol) (C := RX0) (T := TX0) (N := 12) hx hb hts inX0 hown hK hP 0 rfl rfl 3 (by decide) w0 (fun _ h9 => h9) rfl dX0_turnToNextLadder_31 ?_
          refine lv_iload_n hx hb dX0_turnToNextLadder_34 rfl (lv_at hl 2 rfl) ?_
          have hlt := hla tt (by omega) (by omega)
          refine i_iald hx hb hK hP 4 0 rfl rfl (by omega) (by omega) (by decide) dX0_turnToNextLadder_35 ?_
          refine lv_iconst (v := zI 1) hx hb dX0_turnToNextLadder_36 rfl ?_
          refine i_iadd hx hb dX0_turnToNextLadder_37 ?_
          refine lv_istore_n (lv' := [(3, iv ((la tt) + 1)), (0, .ref oa), (1, iv wks), (2, iv tt)]) hx hb dX0_turnToNextLadder_38 rfl hl (by decide) rfl (fun ls hl => ?_)
          refine lv_iload_n hx hb dX0_turnToNextLadder_39 rfl (lv_at hl 3 rfl) ?_
          refine lv_istore (lv' := [(4, iv tt), (3, iv ((la tt) + 1)), (0, .ref oa), (1, iv wks), (2, iv tt)]) hx hb dX0_turnToNextLadder_40 hl (by decide) rfl (fun ls hl => ?_)
          have J_42 : ∀ (n_42 : Nat) (ii : Int) (la1 : Int → Int) (hii : tt ≤ ii ∧ ii ≤ wks) (hl1 : ∀ j : Int, 0 ≤ j → j < wks → la1 j = if tt ≤ j ∧ j < ii then la tt + 1 else la j) (hm_42 : ((wks - ii).toNat) < n_42) (H : Heap) (locs : List Loc) (hP : va_P D vwCl [(oa, ob 0 [.ref op, .ref od, .ref ow, .ref ol, iv fw, iv fr, iv ew, iv gp, iv rm, iv os, iv ok, iv ml]), (op, ar cI 5 pr), (od, ar cI 5 sd), (ow, ar cI 3050 wo), (ol, ar cI 6 la1)] H) (hD : va_D A [(oa, ob 0 [.ref op, .ref od, .ref ow, .ref ol, iv fw, iv fr, iv ew, iv gp, iv rm, iv os, iv ok, iv ml]), (op, ar cI 5 pr), (od, ar cI 5 sd), (ow, ar cI 3050 wo), (ol, ar cI 6 la1)]) (hS : va_S A s.heap H locs) (ls : Array Slot) (hl : lv_has ls 5 [(0, .ref oa), (1, iv wks), (2, iv tt), (3, iv (la tt + 1)), (4, iv ii)]), W p l e rm_X0_turnToNextLadder s m args below meth c H locs 0 0 Q (F0 m 42 ls []) := by
            intro n_42
            induction n_42 with
            | zero => intro ii la1 hii hl1 hm_42 H locs hP hD hS ls hl; exact absurd hm_42 (Nat.not_lt_zero _)
            | succ n_42 ih_42 =>
              intro ii la1 hii hl1 hm_42 H locs hP hD hS ls hl
              refine lv_iload hx hb dX0_turnToNextLadder_42 (lv_at hl 4 rfl) ?_
              refine lv_iload_n hx hb dX0_turnToNextLadder_44 rfl (lv_at hl 1 rfl) ?_
              refine i_icmp_ge (tgt := 62) hx hb ⟨by omega, by omega⟩ ⟨by omega, by omega⟩ dX0_turnToNextLadder_45 (by decide) (fun c_3 => ?_) (fun c_3 => ?_)
              · skip
                refine lv_iconst (v := zI 1) hx hb dX0_turnToNextLadder_62 rfl ?_
                subst hQ
                exact r_Mi hx hb hr hlocks (by first | rfl | decide) dX0_turnToNextLadder_63 hS (hP.sub (ws' := [(oa, ob 0 [.ref op, .ref od, .ref ow, .ref ol, iv fw, iv fr, iv ew, iv gp, iv rm, iv os, iv ok, iv ml]), (op, ar cI 5 pr), (od, ar cI 5 sd), (ow, ar cI 3050 wo), (ol, ar cI 6 la1)]) [0, 1, 2, 3, 4] rfl) (hD.sub (ws' := [(oa, ob 0 [.ref op, .ref od, .ref ow, .ref ol, iv fw, iv fr, iv ew, iv gp, iv rm, iv os, iv ok, iv ml]), (op, ar cI 5 pr), (od, ar cI 5 sd), (ow, ar cI 3050 wo), (ol, ar cI 6 la1)]) [0, 1, 2, 3, 4] (by decide) rfl) (⟨1, la1, (Or.inr ⟨rfl, tt, by omega, by omega, by first | assumption | omega, h4, fun j q1 q2 => by rw [hl1 j q1 q2]; by_cases hj : j < tt; rw [if_pos hj, if_neg (by omega)]; rw [if_neg hj, if_pos (by omega)]⟩), rfl, rfl⟩) (Nat.le_of_ble_eq_true rfl) (Nat.le_of_ble_eq_true rfl)
              · skip
                refine lv_aload_n hx hb dX0_turnToNextLadder_48 rfl (lv_at hl 0 rfl) ?_
                refine va_get (D := D) (ci := 0) (v := .ref ol) (C := RX0) (T := TX0) (N := 12) hx hb hts inX0 hown hK hP 0 rfl rfl 3 (by decide) w0 (fun _ h9 => h9) rfl dX0_turnToNextLadder_49 ?_
                refine lv_iload hx hb dX0_turnToNextLadder_52 (lv_at hl 4 rfl) ?_
                refine lv_iload_n hx hb dX0_turnToNextLadder_54 rfl (lv_at hl 3 rfl) ?_
                refine i_iast hx hb hK hP hD hS 4 0 rfl rfl (by omega) (by omega) (by decide) dX0_turnToNextLadder_55 (fun H locs hP hD hS => ?_)
                have hP : va_P D vwCl [(oa, ob 0 [.ref op, .ref od, .ref ow, .ref ol, iv fw, iv fr, iv ew, iv gp, iv rm, iv os, iv ok, iv ml]), (op, ar cI 5 pr), (od, ar cI 5 sd), (ow, ar cI 3050 wo), (ol, ar cI 6 (ui la1 ii (la tt + 1)))] H := hP
                have hD : va_D A [(oa, ob 0 [.ref op, .ref od, .ref ow, .ref ol, iv fw, iv fr, iv ew, iv gp, iv rm, iv os, iv ok, iv ml]), (op, ar cI 5 pr), (od, ar cI 5 sd), (ow, ar cI 3050 wo), (ol, ar cI 6 (ui la1 ii (la tt + 1)))] := hD
                refine i_iinc (n := 1) (lv' := [(4, iv (ii + 1)), (0, .ref oa), (1, iv wks), (2, iv tt), (3, iv (la tt + 1))]) hx hb dX0_turnToNextLadder_56 hl (k := 4) rfl (by decide) rfl (fun ls hl => ?_)
                refine lv_goto (tgt := 42) hx hb dX0_turnToNextLadder_59 (by decide) ?_
                exact ih_42 (ii + 1) (ui la1 ii (la tt + 1)) (by omega) (fun j q1 q2 => by unfold ui; have := hl1 j q1 q2; by_cases hj : j = ii; rw [if_pos hj, if_pos (by omega)]; rw [if_neg hj, this]; by_cases hk : tt ≤ j ∧ j < ii; rw [if_pos hk, if_pos (by omega)]; rw [if_neg hk, if_neg (by omega)]) (by omega) _ _ (hP.sub [0, 1, 2, 3, 4] rfl) (hD.sub [0, 1, 2, 3, 4] (by decide) rfl) hS ls (lv_sub hl [1, 2, 3, 4, 0] rfl)
          exact J_42 _ tt la (by omega) (fun j q1 q2 => by rw [if_neg (by omega)]) (Nat.lt_succ_self _) _ _ (hP.sub [0, 1, 2, 3, 4] rfl) (hD.sub [0, 1, 2, 3, 4] (by decide) rfl) hS ls (lv_sub hl [2, 3, 4, 1, 0] rfl)
        · skip
          refine lv_iconst (v := zI 0) hx hb dX0_turnToNextLadder_28 rfl ?_
          subst hQ
          exact r_Mi hx hb hr hlocks (by first | rfl | decide) dX0_turnToNextLadder_29 hS (hP.sub (ws' := [(oa, ob 0 [.ref op, .ref od, .ref ow, .ref ol, iv fw, iv fr, iv ew, iv gp, iv rm, iv os, iv ok, iv ml]), (op, ar cI 5 pr), (od, ar cI 5 sd), (ow, ar cI 3050 wo), (ol, ar cI 6 la)]) [0, 1, 2, 3, 4] rfl) (hD.sub (ws' := [(oa, ob 0 [.ref op, .ref od, .ref ow, .ref ol, iv fw, iv fr, iv ew, iv gp, iv rm, iv os, iv ok, iv ml]), (op, ar cI 5 pr), (od, ar cI 5 sd), (ow, ar cI 3050 wo), (ol, ar cI 6 la)]) [0, 1, 2, 3, 4] (by decide) rfl) (⟨0, la, (Or.inl ⟨rfl, rfl, fun j q1 q2 => h4 j (by omega) q2⟩), rfl, rfl⟩) (Nat.le_of_ble_eq_true rfl) (Nat.le_of_ble_eq_true rfl)
      · skip
        refine lv_aload_n hx hb dX0_turnToNextLadder_8 rfl (lv_at hl 0 rfl) ?_
        refine va_get (D := D) (ci := 0) (v := .ref ol) (C := RX0) (T := TX0) (N := 12) hx hb hts inX0 hown hK hP 0 rfl rfl 3 (by decide) w0 (fun _ h9 => h9) rfl dX0_turnToNextLadder_9 ?_
        have hlt := hla tt (by omega) (by omega)
        refine lv_iload_n hx hb dX0_turnToNextLadder_12 rfl (lv_at hl 2 rfl) ?_
        refine i_iald hx hb hK hP 4 0 rfl rfl (by omega) (by omega) (by decide) dX0_turnToNextLadder_13 ?_
        refine lv_iconst (v := zI 4) hx hb dX0_turnToNextLadder_14 rfl ?_
        refine i_icmp_ne (tgt := 24) hx hb ⟨by omega, by omega⟩ ⟨by decide, by decide⟩ dX0_turnToNextLadder_15 (by decide) (fun c_4 => ?_) (fun c_4 => ?_)
        · skip
          refine lv_iload_n hx hb dX0_turnToNextLadder_24 rfl (lv_at hl 2 rfl) ?_
          refine i_if_ge (tgt := 30) hx hb ⟨by omega, by omega⟩ dX0_turnToNextLadder_25 (by decide) (fun c_5 => ?_) (fun c_5 => ?_)
          · skip
            refine lv_aload_n hx hb dX0_turnToNextLadder_30 rfl (lv_at hl 0 rfl) ?_
            refine va_get (D := D) (ci := 0) (v := .ref ol) (C := RX0) (T := TX0) (N := 12) hx hb hts inX0 hown hK hP 0 rfl rfl 3 (by decide) w0 (fun _ h9 => h9) rfl dX0_turnToNextLadder_31 ?_
            refine lv_iload_n hx hb dX0_turnToNextLadder_34 rfl (lv_at hl 2 rfl) ?_
            have hlt := hla tt (by omega) (by omega)
            refine i_iald hx hb hK hP 4 0 rfl rfl (by omega) (by omega) (by decide) dX0_turnToNextLadder_35 ?_
            refine lv_iconst (v := zI 1) hx hb dX0_turnToNextLadder_36 rfl ?_
            refine i_iadd hx hb dX0_turnToNextLadder_37 ?_
            refine lv_istore_n (lv' := [(3, iv ((la tt) + 1)), (0, .ref oa), (1, iv wks), (2, iv tt)]) hx hb dX0_turnToNextLadder_38 rfl hl (by decide) rfl (fun ls hl => ?_)
            refine lv_iload_n hx hb dX0_turnToNextLadder_39 rfl (lv_at hl 3 rfl) ?_
            refine lv_istore (lv' := [(4, iv tt), (3, iv ((la tt) + 1)), (0, .ref oa), (1, iv wks), (2, iv tt)]) hx hb dX0_turnToNextLadder_40 hl (by decide) rfl (fun ls hl => ?_)
            have J_42 : ∀ (n_42 : Nat) (ii : Int) (la1 : Int → Int) (hii : tt ≤ ii ∧ ii ≤ wks) (hl1 : ∀ j : Int, 0 ≤ j → j < wks → la1 j = if tt ≤ j ∧ j < ii then la tt + 1 else la j) (hm_42 : ((wks - ii).toNat) < n_42) (H : Heap) (locs : List Loc) (hP : va_P D vwCl [(oa, ob 0 [.ref op, .ref od, .ref ow, .ref ol, iv fw, iv fr, iv ew, iv gp, iv rm, iv os, iv ok, iv ml]), (op, ar cI 5 pr), (od, ar cI 5 sd), (ow, ar cI 3050 wo), (ol, ar cI 6 la1)] H) (hD : va_D A [(oa, ob 0 [.ref op, .ref od, .ref ow, .ref ol, iv fw, iv fr, iv ew, iv gp, iv rm, iv os, iv ok, iv ml]), (op, ar cI 5 pr), (od, ar cI 5 sd), (ow, ar cI 3050 wo), (ol, ar cI 6 la1)]) (hS : va_S A s.heap H locs) (ls : Array Slot) (hl : lv_has ls 5 [(0, .ref oa), (1, iv wks), (2, iv tt), (3, iv (la tt + 1)), (4, iv ii)]), W p l e rm_X0_turnToNextLadder s m args below meth c H locs 0 0 Q (F0 m 42 ls []) := by
              intro n_42
              induction n_42 with
              | zero => intro ii la1 hii hl1 hm_42 H locs hP hD hS ls hl; exact absurd hm_42 (Nat.not_lt_zero _)
              | succ n_42 ih_42 =>
                intro ii la1 hii hl1 hm_42 H locs hP hD hS ls hl
                refine lv_iload hx hb dX0_turnToNextLadder_42 (lv_at hl 4 rfl) ?_
                refine lv_iload_n hx hb dX0_turnToNextLadder_44 rfl (lv_at hl 1 rfl) ?_
                refine i_icmp_ge (tgt := 62) hx hb ⟨by omega, by omega⟩ ⟨by omega, by omega⟩ dX0_turnToNextLadder_45 (by decide) (fun c_6 => ?_) (fun c_6 => ?_)
                · skip
                  refine lv_iconst (v := zI 1) hx hb dX0_turnToNextLadder_62 rfl ?_
                  subst hQ
                  exact r_Mi hx hb hr hlocks (by first | rfl | decide) dX0_turnToNextLadder_63 hS (hP.sub (ws' := [(oa, ob 0 [.ref op, .ref od, .ref ow, .ref ol, iv fw, iv fr, iv ew, iv gp, iv rm, iv os, iv ok, iv ml]), (op, ar cI 5 pr), (od, ar cI 5 sd), (ow, ar cI 3050 wo), (ol, ar cI 6 la1)]) [0, 1, 2, 3, 4] rfl) (hD.sub (ws' := [(oa, ob 0 [.ref op, .ref od, .ref ow, .ref ol, iv fw, iv fr, iv ew, iv gp, iv rm, iv os, iv ok, iv ml]), (op, ar cI 5 pr), (od, ar cI 5 sd), (ow, ar cI 3050 wo), (ol, ar cI 6 la1)]) [0, 1, 2, 3, 4] (by decide) rfl) (⟨1, la1, (Or.inr ⟨rfl, tt, by omega, by omega, by first | assumption | omega, h4, fun j q1 q2 => by rw [hl1 j q1 q2]; by_cases hj : j < tt; rw [if_pos hj, if_neg (by omega)]; rw [if_neg hj, if_pos (by omega)]⟩), rfl, rfl⟩) (Nat.le_of_ble_eq_true rfl) (Nat.le_of_ble_eq_true rfl)
                · skip
                  refine lv_aload_n hx hb dX0_turnToNextLadder_48 rfl (lv_at hl 0 rfl) ?_
                  refine va_get (D := D) (ci := 0) (v := .ref ol) (C := RX0) (T := TX0) (N := 12) hx hb hts inX0 hown hK hP 0 rfl rfl 3 (by decide) w0 (fun _ h9 => h9) rfl dX0_turnToNextLadder_49 ?_
                  refine lv_iload hx hb dX0_turnToNextLadder_52 (lv_at hl 4 rfl) ?_
                  refine lv_iload_n hx hb dX0_turnToNextLadder_54 rfl (lv_at hl 3 rfl) ?_
                  refine i_iast hx hb hK hP hD hS 4 0 rfl rfl (by omega) (by omega) (by decide) dX0_turnToNextLadder_55 (fun H locs hP hD hS => ?_)
                  have hP : va_P D vwCl [(oa, ob 0 [.ref op, .ref od, .ref ow, .ref ol, iv fw, iv fr, iv ew, iv gp, iv rm, iv os, iv ok, iv ml]), (op, ar cI 5 pr), (od, ar cI 5 sd), (ow, ar cI 3050 wo), (ol, ar cI 6 (ui la1 ii (la tt + 1)))] H := hP
                  have hD : va_D A [(oa, ob 0 [.ref op, .ref od, .ref ow, .ref ol, iv fw, iv fr, iv ew, iv gp, iv rm, iv os, iv ok, iv ml]), (op, ar cI 5 pr), (od, ar cI 5 sd), (ow, ar cI 3050 wo), (ol, ar cI 6 (ui la1 ii (la tt + 1)))] := hD
                  refine i_iinc (n := 1) (lv' := [(4, iv (ii + 1)), (0, .ref oa), (1, iv wks), (2, iv tt), (3, iv (la tt + 1))]) hx hb dX0_turnToNextLadder_56 hl (k := 4) rfl (by decide) rfl (fun ls hl => ?_)
                  refine lv_goto (tgt := 42) hx hb dX0_turnToNextLadder_59 (by decide) ?_
                  exact ih_42 (ii + 1) (ui la1 ii (la tt + 1)) (by omega) (fun j q1 q2 => by unfold ui; have := hl1 j q1 q2; by_cases hj : j = ii; rw [if_pos hj, if_pos (by omega)]; rw [if_neg hj, this]; by_cases hk : tt ≤ j ∧ j < ii; rw [if_pos hk, if_pos (by omega)]; rw [if_neg hk, if_neg (by omega)]) (by omega) _ _ (hP.sub [0, 1, 2, 3, 4] rfl) (hD.sub [0, 1, 2, 3, 4] (by decide) rfl) hS ls (lv_sub hl [1, 2, 3, 4, 0] rfl)
            exact J_42 _ tt la (by omega) (fun j q1 q2 => by rw [if_neg (by omega)]) (Nat.lt_succ_self _) _ _ (hP.sub [0, 1, 2, 3, 4] rfl) (hD.sub [0, 1, 2, 3, 4] (by decide) rfl) hS ls (lv_sub hl [2, 3, 4, 1, 0] rfl)
          · skip
            refine lv_iconst (v := zI 0) hx hb dX0_turnToNextLadder_28 rfl ?_
            subst hQ
            exact r_Mi hx hb hr hlocks (by first | rfl | decide) dX0_turnToNextLadder_29 hS (hP.sub (ws' := [(oa, ob 0 [.ref op, .ref od, .ref ow, .ref ol, iv fw, iv fr, iv ew, iv gp, iv rm, iv os, iv ok, iv ml]), (op, ar cI 5 pr), (od, ar cI 5 sd), (ow, ar cI 3050 wo), (ol, ar cI 6 la)]) [0, 1, 2, 3, 4] rfl) (hD.sub (ws' := [(oa, ob 0 [.ref op, .ref od, .ref ow, .ref ol, iv fw, iv fr, iv ew, iv gp, iv rm, iv os, iv ok, iv ml]), (op, ar cI 5 pr), (od, ar cI 5 sd), (ow, ar cI 3050 wo), (ol, ar cI 6 la)]) [0, 1, 2, 3, 4] (by decide) rfl) (⟨0, la, (Or.inl ⟨rfl, rfl, fun j q1 q2 => h4 j (by omega) q2⟩), rfl, rfl⟩) (Nat.le_of_ble_eq_true rfl) (Nat.le_of_ble_eq_true rfl)
        · skip
          refine i_iinc (n := (-1)) (lv' := [(2, iv (tt + (-1))), (0, .ref oa), (1, iv wks)]) hx hb dX0_turnToNextLadder_18 hl (k := 2) rfl (by decide) rfl (fun ls hl => ?_)
          refine lv_goto (tgt := 4) hx hb dX0_turnToNextLadder_21 (by decide) ?_
          exact ih_4 (tt + (-1)) (by omega) (fun j q1 q2 => by rcases (show tt < j ∨ j = tt by omega) with h | h; exact h4 j h q2; rw [h]; assumption) (by omega) ls (lv_sub hl [1, 2, 0] rfl)
  exact J_4 _ (wks - 1) (by omega) (fun j q1 q2 => by omega) (Nat.lt_succ_self _) ls (lv_sub hl [1, 2, 0] rfl)
end
