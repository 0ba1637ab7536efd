section
-- ===== PART A: goes FIRST, ahead of the names: the tables' words, and 'selects' of the private methods out of them =====
/-- a private method of a class that the tables say can be made, by its rows of tables_1 -/
def lw_okq (q : MethodName × Nat) : Prop := (q.1.cls ≠ "java/lang/invoke/MethodHandle" ∧ q.1.cls ≠ "java/lang/invoke/VarHandle") ∧ Cond.instantiable q.1.cls q.2 ∈ tables_1 ∧ Cond.privateMethod q.1 ∈ tables_1 ∧ Cond.instanceMethod q.1 ∈ tables_1
theorem lw_p0 : lw_okq (⟨"PostingPlanner", "isHit", "(I)Z"⟩, 4) := ⟨⟨by decide +kernel, by decide +kernel⟩, List.mem_of_getElem? (i := 23) (by decide +kernel), List.mem_of_getElem? (i := 282) (by decide +kernel), List.mem_of_getElem? (i := 283) (by decide +kernel)⟩
theorem lw_p1 : lw_okq (⟨"PostingPlanner$PlannedClause", "turn", "(I)V"⟩, 9) := ⟨⟨by decide +kernel, by decide +kernel⟩, List.mem_of_getElem? (i := 122) (by decide +kernel), List.mem_of_getElem? (i := 338) (by decide +kernel), List.mem_of_getElem? (i := 339) (by decide +kernel)⟩
theorem lw_p2 : lw_okq (⟨"PostingPlanner$PlannedClause", "keepLiterals", "(LPostingPlanner$ToldClause;LPostingPlanner$Shelf;J)V"⟩, 9) := ⟨⟨by decide +kernel, by decide +kernel⟩, List.mem_of_getElem? (i := 122) (by decide +kernel), List.mem_of_getElem? (i := 354) (by decide +kernel), List.mem_of_getElem? (i := 355) (by decide +kernel)⟩
theorem lw_p3 : lw_okq (⟨"PostingPlanner$PlannedClause", "settleContraries", "()V"⟩, 9) := ⟨⟨by decide +kernel, by decide +kernel⟩, List.mem_of_getElem? (i := 122) (by decide +kernel), List.mem_of_getElem? (i := 392) (by decide +kernel), List.mem_of_getElem? (i := 393) (by decide +kernel)⟩
theorem lw_p4 : lw_okq (⟨"PostingPlanner$Plan", "takeIn", "(LPostingPlanner$PlannedClause;)V"⟩, 9) := ⟨⟨by decide +kernel, by decide +kernel⟩, List.mem_of_getElem? (i := 95) (by decide +kernel), List.mem_of_getElem? (i := 438) (by decide +kernel), List.mem_of_getElem? (i := 439) (by decide +kernel)⟩
theorem lw_p5 : lw_okq (⟨"PostingPlanner", "checkDocument", "(I)V"⟩, 4) := ⟨⟨by decide +kernel, by decide +kernel⟩, List.mem_of_getElem? (i := 23) (by decide +kernel), List.mem_of_getElem? (i := 491) (by decide +kernel), List.mem_of_getElem? (i := 492) (by decide +kernel)⟩
theorem lw_p6 : lw_okq (⟨"java/lang/Throwable", "fillInStackTrace", "(I)Ljava/lang/Throwable;"⟩, 6) := ⟨⟨by decide +kernel, by decide +kernel⟩, List.mem_of_getElem? (i := 533) (by decide +kernel), List.mem_of_getElem? (i := 531) (by decide +kernel), List.mem_of_getElem? (i := 532) (by decide +kernel)⟩
theorem lw_p7 : lw_okq (⟨"PostingPlanner", "checkWord", "(I)V"⟩, 4) := ⟨⟨by decide +kernel, by decide +kernel⟩, List.mem_of_getElem? (i := 23) (by decide +kernel), List.mem_of_getElem? (i := 597) (by decide +kernel), List.mem_of_getElem? (i := 598) (by decide +kernel)⟩
theorem lw_p8 : lw_okq (⟨"PostingPlanner", "checkKindAndNeed", "(III)V"⟩, 4) := ⟨⟨by decide +kernel, by decide +kernel⟩, List.mem_of_getElem? (i := 23) (by decide +kernel), List.mem_of_getElem? (i := 613) (by decide +kernel), List.mem_of_getElem? (i := 614) (by decide +kernel)⟩
theorem lw_p9 : lw_okq (⟨"PostingPlanner", "plannedClause", "(I)LPostingPlanner$PlannedClause;"⟩, 4) := ⟨⟨by decide +kernel, by decide +kernel⟩, List.mem_of_getElem? (i := 23) (by decide +kernel), List.mem_of_getElem? (i := 683) (by decide +kernel), List.mem_of_getElem? (i := 684) (by decide +kernel)⟩
theorem lw_p10 : lw_okq (⟨"PostingPlanner", "checkRun", "()V"⟩, 4) := ⟨⟨by decide +kernel, by decide +kernel⟩, List.mem_of_getElem? (i := 23) (by decide +kernel), List.mem_of_getElem? (i := 725) (by decide +kernel), List.mem_of_getElem? (i := 726) (by decide +kernel)⟩
theorem lw_p11 : lw_okq (⟨"PostingPlanner$PlannedLiteral", "cost", "(I)I"⟩, 6) := ⟨⟨by decide +kernel, by decide +kernel⟩, List.mem_of_getElem? (i := 129) (by decide +kernel), List.mem_of_getElem? (i := 758) (by decide +kernel), List.mem_of_getElem? (i := 759) (by decide +kernel)⟩
theorem lw_p12 : lw_okq (⟨"PostingPlannerModel", "goes", "(ZZZ)Z"⟩, 35) := ⟨⟨by decide +kernel, by decide +kernel⟩, List.mem_of_getElem? (i := 793) (by decide +kernel), List.mem_of_getElem? (i := 920) (by decide +kernel), List.mem_of_getElem? (i := 921) (by decide +kernel)⟩
theorem lw_p13 : lw_okq (⟨"PostingPlannerModel", "many", "()I"⟩, 35) := ⟨⟨by decide +kernel, by decide +kernel⟩, List.mem_of_getElem? (i := 793) (by decide +kernel), List.mem_of_getElem? (i := 932) (by decide +kernel), List.mem_of_getElem? (i := 933) (by decide +kernel)⟩
theorem lw_p14 : lw_okq (⟨"PostingPlannerModel", "count0", "(I)I"⟩, 35) := ⟨⟨by decide +kernel, by decide +kernel⟩, List.mem_of_getElem? (i := 793) (by decide +kernel), List.mem_of_getElem? (i := 940) (by decide +kernel), List.mem_of_getElem? (i := 941) (by decide +kernel)⟩
theorem lw_p15 : lw_okq (⟨"PostingPlannerModel", "isMatch", "(I)Z"⟩, 35) := ⟨⟨by decide +kernel, by decide +kernel⟩, List.mem_of_getElem? (i := 793) (by decide +kernel), List.mem_of_getElem? (i := 966) (by decide +kernel), List.mem_of_getElem? (i := 967) (by decide +kernel)⟩
def lw_privs_1 : List (MethodName × Nat) := [(⟨"PostingPlanner", "isHit", "(I)Z"⟩, 4), (⟨"PostingPlanner$PlannedClause", "turn", "(I)V"⟩, 9), (⟨"PostingPlanner$PlannedClause", "keepLiterals", "(LPostingPlanner$ToldClause;LPostingPlanner$Shelf;J)V"⟩, 9), (⟨"PostingPlanner$PlannedClause", "settleContraries", "()V"⟩, 9), (⟨"PostingPlanner$Plan", "takeIn", "(LPostingPlanner$PlannedClause;)V"⟩, 9), (⟨"PostingPlanner", "checkDocument", "(I)V"⟩, 4), (⟨"java/lang/Throwable", "fillInStackTrace", "(I)Ljava/lang/Throwable;"⟩, 6), (⟨"PostingPlanner", "checkWord", "(I)V"⟩, 4), (⟨"PostingPlanner", "checkKindAndNeed", "(III)V"⟩, 4), (⟨"PostingPlanner", "plannedClause", "(I)LPostingPlanner$PlannedClause;"⟩, 4), (⟨"PostingPlanner", "checkRun", "()V"⟩, 4), (⟨"PostingPlanner$PlannedLiteral", "cost", "(I)I"⟩, 6), (⟨"PostingPlannerModel", "goes", "(ZZZ)Z"⟩, 35), (⟨"PostingPlannerModel", "many", "()I"⟩, 35), (⟨"PostingPlannerModel", "count0", "(I)I"⟩, 35), (⟨"PostingPlannerModel", "isMatch", "(I)Z"⟩, 35)]
theorem lw_r1 : ∀ q ∈ lw_privs_1, lw_okq q := List.forall_mem_cons.mpr ⟨lw_p0, List.forall_mem_cons.mpr ⟨lw_p1, List.forall_mem_cons.mpr ⟨lw_p2, List.forall_mem_cons.mpr ⟨lw_p3, List.forall_mem_cons.mpr ⟨lw_p4, List.forall_mem_cons.mpr ⟨lw_p5, List.forall_mem_cons.mpr ⟨lw_p6, List.forall_mem_cons.mpr ⟨lw_p7, List.forall_mem_cons.mpr ⟨lw_p8, List.forall_mem_cons.mpr ⟨lw_p9, List.forall_mem_cons.mpr ⟨lw_p10, List.forall_mem_cons.mpr ⟨lw_p11, List.forall_mem_cons.mpr ⟨lw_p12, List.forall_mem_cons.mpr ⟨lw_p13, List.forall_mem_cons.mpr ⟨lw_p14, List.forall_mem_cons.mpr ⟨lw_p15, fun _ h => absurd h List.not_mem_nil⟩⟩⟩⟩⟩⟩⟩⟩⟩⟩⟩⟩⟩⟩⟩⟩
theorem lw_p16 : lw_okq (⟨"PostingPlannerModel", "makes", "()V"⟩, 35) := ⟨⟨by decide +kernel, by decide +kernel⟩, List.mem_of_getElem? (i := 793) (by decide +kernel), List.mem_of_getElem? (i := 981) (by decide +kernel), List.mem_of_getElem? (i := 982) (by decide +kernel)⟩
theorem lw_p17 : lw_okq (⟨"PostingPlannerModel", "plainly", "(I)V"⟩, 35) := ⟨⟨by decide +kernel, by decide +kernel⟩, List.mem_of_getElem? (i := 793) (by decide +kernel), List.mem_of_getElem? (i := 985) (by decide +kernel), List.mem_of_getElem? (i := 986) (by decide +kernel)⟩
theorem lw_p18 : lw_okq (⟨"PostingPlannerModel", "thins", "(I)V"⟩, 35) := ⟨⟨by decide +kernel, by decide +kernel⟩, List.mem_of_getElem? (i := 793) (by decide +kernel), List.mem_of_getElem? (i := 992) (by decide +kernel), List.mem_of_getElem? (i := 993) (by decide +kernel)⟩
theorem lw_p19 : lw_okq (⟨"PostingPlannerModel", "hasAhead", "(III)Z"⟩, 35) := ⟨⟨by decide +kernel, by decide +kernel⟩, List.mem_of_getElem? (i := 793) (by decide +kernel), List.mem_of_getElem? (i := 996) (by decide +kernel), List.mem_of_getElem? (i := 997) (by decide +kernel)⟩
theorem lw_p20 : lw_okq (⟨"PostingPlannerModel", "sorts", "(I)V"⟩, 35) := ⟨⟨by decide +kernel, by decide +kernel⟩, List.mem_of_getElem? (i := 793) (by decide +kernel), List.mem_of_getElem? (i := 1000) (by decide +kernel), List.mem_of_getElem? (i := 1001) (by decide +kernel)⟩
theorem lw_p21 : lw_okq (⟨"PostingPlannerModel", "isAhead", "(II)Z"⟩, 35) := ⟨⟨by decide +kernel, by decide +kernel⟩, List.mem_of_getElem? (i := 793) (by decide +kernel), List.mem_of_getElem? (i := 1004) (by decide +kernel), List.mem_of_getElem? (i := 1005) (by decide +kernel)⟩
theorem lw_p22 : lw_okq (⟨"PostingPlannerModel", "estimates", "(I)V"⟩, 35) := ⟨⟨by decide +kernel, by decide +kernel⟩, List.mem_of_getElem? (i := 793) (by decide +kernel), List.mem_of_getElem? (i := 1008) (by decide +kernel), List.mem_of_getElem? (i := 1009) (by decide +kernel)⟩
theorem lw_p23 : lw_okq (⟨"PostingPlannerModel", "estimated", "(IIII)I"⟩, 35) := ⟨⟨by decide +kernel, by decide +kernel⟩, List.mem_of_getElem? (i := 793) (by decide +kernel), List.mem_of_getElem? (i := 1012) (by decide +kernel), List.mem_of_getElem? (i := 1013) (by decide +kernel)⟩
theorem lw_p24 : lw_okq (⟨"PostingPlannerModel", "planEstimate", "()I"⟩, 35) := ⟨⟨by decide +kernel, by decide +kernel⟩, List.mem_of_getElem? (i := 793) (by decide +kernel), List.mem_of_getElem? (i := 1028) (by decide +kernel), List.mem_of_getElem? (i := 1029) (by decide +kernel)⟩
theorem lw_p25 : lw_okq (⟨"PostingPlannerModel", "isPlace", "(I)Z"⟩, 35) := ⟨⟨by decide +kernel, by decide +kernel⟩, List.mem_of_getElem? (i := 793) (by decide +kernel), List.mem_of_getElem? (i := 1036) (by decide +kernel), List.mem_of_getElem? (i := 1037) (by decide +kernel)⟩
theorem lw_p26 : lw_okq (⟨"PostingPlannerModel", "leaps", "(I)I"⟩, 35) := ⟨⟨by decide +kernel, by decide +kernel⟩, List.mem_of_getElem? (i := 793) (by decide +kernel), List.mem_of_getElem? (i := 1060) (by decide +kernel), List.mem_of_getElem? (i := 1061) (by decide +kernel)⟩
theorem lw_p27 : lw_okq (⟨"PostingPlannerModel", "seeksPlan", "(I)I"⟩, 35) := ⟨⟨by decide +kernel, by decide +kernel⟩, List.mem_of_getElem? (i := 793) (by decide +kernel), List.mem_of_getElem? (i := 1064) (by decide +kernel), List.mem_of_getElem? (i := 1065) (by decide +kernel)⟩
theorem lw_p28 : lw_okq (⟨"PostingPlannerModel", "seeksClause", "(II)V"⟩, 35) := ⟨⟨by decide +kernel, by decide +kernel⟩, List.mem_of_getElem? (i := 793) (by decide +kernel), List.mem_of_getElem? (i := 1068) (by decide +kernel), List.mem_of_getElem? (i := 1069) (by decide +kernel)⟩
theorem lw_p29 : lw_okq (⟨"PostingPlannerModel", "seeksLiteral", "(II)V"⟩, 35) := ⟨⟨by decide +kernel, by decide +kernel⟩, List.mem_of_getElem? (i := 793) (by decide +kernel), List.mem_of_getElem? (i := 1072) (by decide +kernel), List.mem_of_getElem? (i := 1073) (by decide +kernel)⟩
theorem lw_p30 : lw_okq (⟨"PostingPlannerModel", "nthLiteral", "(III)I"⟩, 35) := ⟨⟨by decide +kernel, by decide +kernel⟩, List.mem_of_getElem? (i := 793) (by decide +kernel), List.mem_of_getElem? (i := 1076) (by decide +kernel), List.mem_of_getElem? (i := 1077) (by decide +kernel)⟩
theorem lw_p31 : lw_okq (⟨"PostingPlannerModel", "nthClause", "(I)I"⟩, 35) := ⟨⟨by decide +kernel, by decide +kernel⟩, List.mem_of_getElem? (i := 793) (by decide +kernel), List.mem_of_getElem? (i := 1080) (by decide +kernel), List.mem_of_getElem? (i := 1081) (by decide +kernel)⟩
def lw_privs_2 : List (MethodName × Nat) := [(⟨"PostingPlannerModel", "makes", "()V"⟩, 35), (⟨"PostingPlannerModel", "plainly", "(I)V"⟩, 35), (⟨"PostingPlannerModel", "thins", "(I)V"⟩, 35), (⟨"PostingPlannerModel", "hasAhead", "(III)Z"⟩, 35), (⟨"PostingPlannerModel", "sorts", "(I)V"⟩, 35), (⟨"PostingPlannerModel", "isAhead", "(II)Z"⟩, 35), (⟨"PostingPlannerModel", "estimates", "(I)V"⟩, 35), (⟨"PostingPlannerModel", "estimated", "(IIII)I"⟩, 35), (⟨"PostingPlannerModel", "planEstimate", "()I"⟩, 35), (⟨"PostingPlannerModel", "isPlace", "(I)Z"⟩, 35), (⟨"PostingPlannerModel", "leaps", "(I)I"⟩, 35), (⟨"PostingPlannerModel", "seeksPlan", "(I)I"⟩, 35), (⟨"PostingPlannerModel", "seeksClause", "(II)V"⟩, 35), (⟨"PostingPlannerModel", "seeksLiteral", "(II)V"⟩, 35), (⟨"PostingPlannerModel", "nthLiteral", "(III)I"⟩, 35), (⟨"PostingPlannerModel", "nthClause", "(I)I"⟩, 35)]
theorem lw_r2 : ∀ q ∈ lw_privs_2, lw_okq q := List.forall_mem_cons.mpr ⟨lw_p16, List.forall_mem_cons.mpr ⟨lw_p17, List.forall_mem_cons.mpr ⟨lw_p18, List.forall_mem_cons.mpr ⟨lw_p19, List.forall_mem_cons.mpr ⟨lw_p20, List.forall_mem_cons.mpr ⟨lw_p21, List.forall_mem_cons.mpr ⟨lw_p22, List.forall_mem_cons.mpr ⟨lw_p23, List.forall_mem_cons.mpr ⟨lw_p24, List.forall_mem_cons.mpr ⟨lw_p25, List.forall_mem_cons.mpr ⟨lw_p26, List.forall_mem_cons.mpr ⟨lw_p27, List.forall_mem_cons.mpr ⟨lw_p28, List.forall_mem_cons.mpr ⟨lw_p29, List.forall_mem_cons.mpr ⟨lw_p30, List.forall_mem_cons.mpr ⟨lw_p31, fun _ h => absurd h List.not_mem_nil⟩⟩⟩⟩⟩⟩⟩⟩⟩⟩⟩⟩⟩⟩⟩⟩
def lw_privs : List (MethodName × Nat) := lw_privs_1 ++ (lw_privs_2)
def lw_tbl : List Cond := k2_sels lw_privs ++ tables_1
theorem lw_privs_ok : ∀ q ∈ lw_privs, lw_okq q := by
  show ∀ q ∈ lw_privs_1 ++ (lw_privs_2), lw_okq q
  exact List.forall_mem_append.mpr ⟨lw_r1, lw_r2⟩
-- ===== end of PART A; then your names; then what follows =====
/-! ===== BEGIN words of one list among another's, by their places ===== -/
theorem goodIn_r {big : List Cond} (ws : List Cond) (ps : List Nat) (hp : ws = ps.filterMap (fun i => big[i]?)) (h : ws.all goodWord = true) : GoodIn big ws := by
  intro w hw
  have h1 := List.all_eq_true.mp h w hw
  rw [hp] at hw
  obtain ⟨i, -, hi⟩ := List.mem_filterMap.mp hw
  have hm : w ∈ big := by first | exact List.mem_of_getElem? hi | exact List.getElem?_mem hi
  exact ⟨hm, good_of_word h1⟩
theorem goodIn_app {big a b : List Cond} (ha : GoodIn big a) (hb : GoodIn big b) : GoodIn big (a ++ b) := fun w h => (List.mem_append.mp h).elim (ha w) (hb w)
theorem goodIn_ca {big a b : List Cond} {c : Cond} (ha : GoodIn big (c :: a)) (hb : GoodIn big b) : GoodIn big (c :: (a ++ b)) := fun w h => (List.mem_cons.mp h).elim (fun e => ha w (List.mem_cons.mpr (Or.inl e))) (fun h => (List.mem_append.mp h).elim (fun h => ha w (List.mem_cons.mpr (Or.inr h))) (hb w))
theorem goodIn_sub {big ws : List Cond} (hm : ∀ w ∈ ws, w ∈ big) (h : ws.all goodWord = true) : GoodIn big ws := fun w hw => ⟨hm w hw, good_of_word (List.all_eq_true.mp h w hw)⟩
/-! ===== END ===== -/

/-! ===== BEGIN exceptions that leave a method, and their catching by the caller (launches without stack traces) ===== -/
section VXA
/-! The laws vx_back, vx_callV, vx_callS, vx_callSW, vx_throw0, vx_throwS follow proofs of the library, with one case more: JvmDerived/Free/Laws.lean (Back.of_free), Shelf42/LK1.lean (callV, callS), Shelf/KitTraced.lean (throwNew0V, throwNewS). -/
/-- where a method has thrown q: the class by its name, the cell, what was written, the world -/
def vx_T (XC : String → State → State → Prop) (st : State) (q : Addr) (t : State) (mc ms : Nat) (free : Addr → Prop) : Prop :=
  ∃ (E : String) (ce : Cell) (L : List Loc), XC E st t ∧ t.heap[q]? = some ce ∧ ce.vm = .none ∧ st.vm.findClass E = some ce.cls ∧ st.WarmedH t.vm ∧ st.sameButNew ({ t with vm := st.vm } : State) L mc ms ∧ ∀ z ∈ L, free z.base
def vx_Q (Qc : Array Value → State → Outcome → State → Prop) (XC : String → State → State → Prop) (mc ms : Nat) (free : Addr → Prop) : Array Value → State → Outcome → State → Prop := fun a st o t =>
  (Qc a st o t ∧ ∃ L, FrameEnd st o t L mc ms ∧ ∀ q ∈ L, free q.base) ∨ ∃ q, o = .threw q ∧ vx_T XC st q t mc ms free
/-- a callee that returns or throws -/
def vx_Met (l : Launch) (y : MethodName) (ws : List Cond) (rm : Room) (Pc : Array Value → State → Prop) (Qc : Array Value → State → Outcome → State → Prop) (XC : String → State → State → Prop) (mc ms : Nat) (free : Addr → Prop) : Prop :=
  MetFree l y (headSpec ws rm) Pc (fun _ _ _ _ _ => True) (vx_Q Qc XC mc ms free)
def vx_Post (XC : String → State → State → Prop) (mc ms : Nat) (free : Addr → Prop) : Pt → Array Value → Addr → Pt → Prop := fun A a q B =>
  ∃ (g : JFrame) (mk : MethodId) (t : State) (L : List Loc) (E : String) (ce : Cell), B.U.heap = t.heap ∧ B.U.vm = t.vm ∧ XC E (A.U.calling g mk a) t ∧ t.heap[q]? = some ce ∧ ce.vm = .none ∧ A.U.vm.findClass E = some ce.cls ∧ B.locs = A.locs ++ L ∧ (∀ z ∈ L, free z.base) ∧ B.cells = A.cells + mc ∧ B.slots = A.slots + ms
def vx_Back (l : Launch) (R : Room) (p : Program) (e : Env) (below : List Frame) (s : State) (sargs : Array Value) (y : MethodName) (len W9 : Nat)
    (Pre : Pt → Array Value → Prop) (Post : Pt → Array Value → Option Value → Pt → Prop) (PostX : Pt → Array Value → Addr → Pt → Prop) : Prop :=
  ∀ (m : MethodId) (meth : Method) (c : Code) (A : Pt) (g : JFrame) (ig : Instr) (mk : MethodId) (a : Array Value),
    Stand p l e R s m sargs below meth c A.U A.locs A.cells A.slots → g.method = m → g.locals.size = c.maxLocals → decode c.code g.pc = .ok (ig, len) →
    2 * g.monitorRoom + (g.stack.map fun v => v.category).sum ≤ W9 → A.U.methodNamed? y = some mk → Pre A a →
    (∃ (v : Option Value) (B : Pt), Stand p l e R s m sargs below meth c B.U B.locs B.cells B.slots ∧ Post A a v B ∧
      Steps p.tables e below (doInvoke e (A.U.setTop g) [] mk a).1 (B.U.setTop { g with pc := g.pc + len, stack := v.toList ++ g.stack })) ∨
    (∃ (q : Addr) (B : Pt), Stand p l e R s m sargs below meth c B.U B.locs B.cells B.slots ∧ PostX A a q B ∧
      Steps p.tables e below (doInvoke e (A.U.setTop g) [] mk a).1 ((B.U.setTop g).pushFrame (.throwing q)))
section Payer
variable {l : Launch} {R : Room} {p : Program} {e : Env} {below : List Frame} {s : State} {sargs : Array Value} {y : MethodName} {len W9 : Nat}
theorem vx_back {ws : List Cond} {rm : Room} {Pc : Array Value → State → Prop} {Qc : Array Value → State → Outcome → State → Prop} {XC : String → State → State → Prop} {mc ms : Nat} {free : Addr → Prop} {bytes : ByteArray} {maxL : Nat} {ret : Option FieldType}
    (hM : vx_Met l y ws rm Pc Qc XC mc ms free) (hblind : FrameBlind Pc) (hrc : rm.cells = mc) (hrs : rm.slots = ms)
    (hframes : rm.frames + 1 ≤ R.frames) (hlocals : W9 + (maxL + 11) + rm.locals ≤ R.locals)
    (hws : ∀ w ∈ ws, ∀ a' U, s.WarmedH U.vm → w.before a' U = true) (hcode : Cond.code y bytes maxL ret ∈ ws) (hinit : ∀ a' U, s.WarmedH U.vm → (Cond.initialized y.cls).before a' U = true) :
    vx_Back l R p e below s sargs y len W9 (PreOf R mc ms Pc) (PostOf Qc mc ms free) (vx_Post XC mc ms free) := by
  intro m meth c A g ig mk a X hg hsize hdg hW hn hp
  have h1 : (headSpec ws rm).pre.before a A.U = true := atoms_intro fun w hw => hws w hw _ _ X.warmed
  have h2 : (Cond.code y bytes maxL ret).before a A.U = true := hws _ hcode _ _ X.warmed
  have h3 : (Cond.initialized y.cls).before a A.U = true := hinit _ _ X.warmed
  have h4 : A.cells + (headSpec ws rm).room.cells ≤ R.cells := by rw [show (headSpec ws rm).room.cells = mc from hrc]; exact hp.1
  have h5 : A.slots + (headSpec ws rm).room.slots ≤ R.slots := by rw [show (headSpec ws rm).room.slots = ms from hrs]; exact hp.2.1
  have hPc : Pc a (A.U.calling g mk a) := hblind _ _ _ _ hp.2.2
  obtain ⟨U, Ls, c0, s0⟩ := A
  dsimp only [Pt.U, Pt.locs, Pt.cells, Pt.slots] at h1 h2 h3 h4 h5 X hn hPc ⊢
  obtain ⟨methY, cY, hmY, hcY, -, hlY, -, -, -, -⟩ := Cond.code_spec hn h2
  obtain ⟨kY, hkY, -⟩ := className_of_methodNamed hn
  have hinitY : kY.init = .initialized := Cond.initialized_spec (findClass_of_methodNamed hn) hkY h3
  have h : At U g.method c below := by rw [hg]; exact X.here
  have hlocals9 : W9 + (maxL + 11) + (headSpec ws rm).room.locals ≤ R.locals := hlocals
  have happ : (headSpec ws rm).appliesLoose y e.platform (U.calling g mk a) = true :=
    Spec.appliesLoose_calling (g := g) h hdg hn hkY hinitY
      (X.room_calling (g := g) (R' := (headSpec ws rm).room) hsize hmY hcY hframes (by rw [hlY]; omega) h4 h5) h1
  obtain ⟨mid, hmid⟩ := h.above
  have hfr : (U.setTop g).frames = (.java g :: mid) ++ below := by rw [State.frames_setTop' g h.top, hmid]; rfl
  obtain ⟨o, s₂, hsteps, -, hend, hq⟩ := Steps.callFree hM p X.admits X.cas X.clock (acts := []) hfr happ hPc trivial
  have hq' : vx_Q Qc XC mc ms free a (U.calling g mk a) o s₂ := hq
  rw [State.frames_setTop' g h.top] at hend
  obtain ⟨g₀, hg0⟩ := Option.isSome_iff_exists.mp h.top
  obtain ⟨r, hr⟩ := State.topJava?_eq_some.mp hg0
  have hr' : (({ U with heap := s₂.heap, slotsUsed := s₂.slotsUsed } : State).setVm s₂.vm).frames = .java g₀ :: r := hr
  rcases hq' with ⟨hqc, L, hfe, hL⟩ | ⟨q, rfl, E, ce, L, hx, hce, hcv, hcl, hW₂, hsm, hL⟩
  · obtain ⟨⟨v, rfl⟩, hW₂, e2, q2, q3, q4, q5, q6⟩ := id hfe
    have e3 : s₂ = ({ (U.calling g mk a).setFrames s₂.frames with heap := s₂.heap, slotsUsed := s₂.slotsUsed } : State).setVm s₂.vm := by
      have : s₂ = ({ s₂ with vm := (U.calling g mk a).vm } : State).setVm s₂.vm := rfl
      rw [e2] at this
      exact this
    obtain ⟨c₂, i₂, len₂, hc₂, hd₂, hf₂⟩ := hend
    have hW' : U.WarmedH s₂.vm := hW₂
    have hcc : c₂ = c := by
      have h1 : s₂.code? g.method = U.code? g.method := by
        rw [State.code?_eq, State.code?_eq, hW'.alike.method?]
      exact Option.some.inj (hc₂.symm.trans (h1.trans h.code))
    subst hcc
    have hlen : len₂ = len := by rw [hdg] at hd₂; cases hd₂; rfl
    subst hlen
    have hs₂ : s₂ = (({ U with heap := s₂.heap, slotsUsed := s₂.slotsUsed } : State).setVm s₂.vm).setTop { g with pc := g.pc + len₂, stack := v.toList ++ g.stack } := by
      refine e3.trans ?_
      rw [hf₂, State.calling_eq h.top, State.setFrames_setFrames, State.setTop_of_frames _ hr', hr]
      rfl
    have hsame : U.sameButNew ({ U with heap := s₂.heap, slotsUsed := s₂.slotsUsed } : State) L mc ms := by
      refine ⟨?_, q2, q3, q4, q5, q6⟩
      obtain ⟨t, ht, -⟩ := State.frames_cons hr
      show ({ U with heap := s₂.heap, slotsUsed := s₂.slotsUsed } : State) = { U.setFrames U.frames with heap := s₂.heap, slotsUsed := s₂.slotsUsed }
      rw [State.setFrames_self ht]
    subst hg
    refine Or.inl ⟨v, ⟨(({ U with heap := s₂.heap, slotsUsed := s₂.slotsUsed } : State).setVm s₂.vm), Ls ++ L, c0 + mc, s0 + ms⟩,
      ⟨X.admits, X.cas, X.clock, X.frames, X.room, X.hears, X.method, X.code, (X.here.setHeapUsed s₂.heap s₂.slotsUsed).setVm hW'.alike, X.tail, State.WarmedH.trans X.warmed hW', X.limits, X.bytes, X.same.trans (hsame.setVm s.vm)⟩,
      ⟨g, mk, s₂, L, rfl, rfl, hqc, rfl, hL, rfl, rfl⟩, ?_⟩
    show Steps p.tables e below _ ((({ U with heap := s₂.heap, slotsUsed := s₂.slotsUsed } : State).setVm s₂.vm).setTop { g with pc := g.pc + len₂, stack := v.toList ++ g.stack })
    rw [← hs₂]
    exact hsteps
  · obtain ⟨e2, q2, q3, q4, q5, q6⟩ := id hsm
    have e3 : s₂ = ({ (U.calling g mk a).setFrames s₂.frames with heap := s₂.heap, slotsUsed := s₂.slotsUsed } : State).setVm s₂.vm := by
      have : s₂ = ({ s₂ with vm := (U.calling g mk a).vm } : State).setVm s₂.vm := rfl
      rw [e2] at this
      exact this
    have hf₂ : s₂.frames = .throwing q :: .java g :: U.frames.tail := hend
    have hW' : U.WarmedH s₂.vm := hW₂
    have hs₂ : s₂ = ((({ U with heap := s₂.heap, slotsUsed := s₂.slotsUsed } : State).setVm s₂.vm).setTop g).pushFrame (.throwing q) := by
      refine e3.trans ?_
      rw [hf₂, State.calling_eq h.top, State.setFrames_setFrames, State.pushFrame, State.frames_setTop _ hr', State.setTop_of_frames _ hr', State.setFrames_setFrames, hr]
      rfl
    have hsame : U.sameButNew ({ U with heap := s₂.heap, slotsUsed := s₂.slotsUsed } : State) L mc ms := by
      refine ⟨?_, q2, q3, q4, q5, q6⟩
      obtain ⟨t, ht, -⟩ := State.frames_cons hr
      show ({ U with heap := s₂.heap, slotsUsed := s₂.slotsUsed } : State) = { U.setFrames U.frames with heap := s₂.heap, slotsUsed := s₂.slotsUsed }
      rw [State.setFrames_self ht]
    subst hg
    refine Or.inr ⟨q, ⟨(({ U with heap := s₂.heap, slotsUsed := s₂.slotsUsed } : State).setVm s₂.vm), Ls ++ L, c0 + mc, s0 + ms⟩,
      ⟨X.admits, X.cas, X.clock, X.frames, X.room, X.hears, X.method, X.code, (X.here.setHeapUsed s₂.heap s₂.slotsUsed).setVm hW'.alike, X.tail, State.WarmedH.trans X.warmed hW', X.limits, X.bytes, X.same.trans (hsame.setVm s.vm)⟩,
      ⟨g, mk, s₂, L, E, ce, rfl, rfl, hx, hce, hcv, hcl, rfl, hL, rfl, rfl⟩, ?_⟩
    show Steps p.tables e below _ (((({ U with heap := s₂.heap, slotsUsed := s₂.slotsUsed } : State).setVm s₂.vm).setTop g).pushFrame (.throwing q))
    rw [← hs₂]
    exact hsteps
end Payer
section Calls
variable {p : Program} {l : Launch} {e : Env} {R : Room} {s : State} {m : MethodId} {args : Array Value} {below : List Frame} {meth : Method} {c : Code} {T : State} {locs : List Loc} {cells slots : Nat}
theorem vx_callV (X : Stand p l e R s m args below meth c T locs cells slots) (hexec : p.tables.exec = Jvm.exec) {own C : String} {index : Nat} {y : MethodName} {bytes : ByteArray} {maxL : Nat} {ret : Option FieldType}
    (hown : s.vm.findClass own = some m.cls) (hlink : (Cond.methodLink own index y).before args s = true) (hinst : (Cond.instanceMethod y).before args s = true) (hsel : (Cond.selects C y y).before args s = true)
    (hcode : (Cond.code y bytes maxL ret).before args s = true) (hy : y.cls ≠ "java/lang/invoke/MethodHandle" ∧ y.cls ≠ "java/lang/invoke/VarHandle")
    {W9 : Nat} {Pre : Pt → Array Value → Prop} {Post : Pt → Array Value → Option Value → Pt → Prop} {PostX : Pt → Array Value → Addr → Pt → Prop} (hK : vx_Back l R p e below s args y 3 W9 Pre Post PostX)
    {b : Addr} {cellB : Cell} (hcell : T.heap[b]? = some cellB) (hobj : cellB.vm.isStatics = false) (hcls : s.vm.findClass C = some cellB.cls)
    {g : JFrame} (hg : g.method = m) (hsize : g.locals.size = c.maxLocals) {argsL rest : List Value} (hlen : ∀ sig, parseMethodDescriptor y.desc = some sig → argsL.length = sig.parameters.length)
    (hstack : g.stack = argsL.reverse ++ .ref b :: rest) (hW : 2 * g.monitorRoom + (rest.map fun v => v.category).sum ≤ W9) (hdg : decode c.code g.pc = .ok (.invokevirtual index, 3))
    (hpre : ∀ vm₁, s.WarmedH vm₁ → Pre ⟨T.setVm vm₁, locs, cells, slots⟩ (Value.ref b :: argsL).toArray) :
    (∃ (v : Option Value) (vm₁ : Vm) (B : Pt), s.WarmedH vm₁ ∧ Stand p l e R s m args below meth c B.U B.locs B.cells B.slots ∧ Post ⟨T.setVm vm₁, locs, cells, slots⟩ (Value.ref b :: argsL).toArray v B ∧
      ∀ target, Steps p.tables e below (B.U.setTop { g with pc := g.pc + 3, stack := v.toList ++ rest }) target → Steps p.tables e below (T.setTop g) target) ∨
    (∃ (q : Addr) (vm₁ : Vm) (B : Pt), s.WarmedH vm₁ ∧ Stand p l e R s m args below meth c B.U B.locs B.cells B.slots ∧ PostX ⟨T.setVm vm₁, locs, cells, slots⟩ (Value.ref b :: argsL).toArray q B ∧
      Steps p.tables e below (T.setTop g) ((B.U.setTop { g with stack := rest }).pushFrame (.throwing q))) := by
  obtain ⟨mk, methM, hnamed, hmethM, hstM, habM⟩ := Cond.instanceMethod_spec hinst
  obtain ⟨methM', cM, hmethM', -, -, -, -, -, -, hsigM⟩ := Cond.code_spec hnamed hcode
  cases hmethM.symm.trans hmethM'
  obtain ⟨c2, r2, m2, q1, q2, q3, q4, kP, hkP, hkPi⟩ := Cond.selects_spec hsel
  cases hcls.symm.trans q1
  cases (State.methodFound?_of_named hnamed hy).symm.trans q2
  cases hnamed.symm.trans q3
  have hselP : selectMethod e.platform s.vm cellB.cls mk = .method mk := by rw [Launch.admits_selectMethod X.admits]; exact q4
  obtain ⟨vm₁, X₁, hstep₁⟩ := X.invokevirtual hexec hown hlink hnamed hmethM hstM hkP hkPi hy (a := b) (cell := cellB) hcell
    (fun z h => by rw [h] at hobj; cases hobj) hselP hmethM habM hkP hkPi (g := g) hg (argsL := argsL) (rest := rest) (hlen _ hsigM) hstack hdg
  rcases hK m meth c ⟨T.setVm vm₁, locs, cells, slots⟩ { g with stack := rest } (.invokevirtual index) mk (Value.ref b :: argsL).toArray X₁ hg hsize hdg hW (X₁.named hnamed) (hpre vm₁ X₁.warmed) with ⟨v, B, X', hpost, hsteps⟩ | ⟨q, B, X', hpost, hsteps⟩
  · exact Or.inl ⟨v, vm₁, B, X₁.warmed, X', hpost, fun target h => hstep₁ _ fun acts => by rw [doInvoke_state]; exact hsteps.trans h⟩
  · exact Or.inr ⟨q, vm₁, B, X₁.warmed, X', hpost, hstep₁ _ fun acts => by rw [doInvoke_state]; exact hsteps⟩
theorem vx_callS (X : Stand p l e R s m args below meth c T locs cells slots) (hexec : p.tables.exec = Jvm.exec) {own : String} {index : Nat} {y : MethodName} {bytes : ByteArray} {maxL : Nat} {ret : Option FieldType}
    (hown : s.vm.findClass own = some m.cls) (hlink : (Cond.methodLink own index y).before args s = true) (hstat : (Cond.static y).before args s = true) (hinit : (Cond.initialized y.cls).before args s = true)
    (hcode : (Cond.code y bytes maxL ret).before args s = true) (hy : y.cls ≠ "java/lang/invoke/MethodHandle" ∧ y.cls ≠ "java/lang/invoke/VarHandle")
    {W9 : Nat} {Pre : Pt → Array Value → Prop} {Post : Pt → Array Value → Option Value → Pt → Prop} {PostX : Pt → Array Value → Addr → Pt → Prop} (hK : vx_Back l R p e below s args y 3 W9 Pre Post PostX)
    {g : JFrame} (hg : g.method = m) (hsize : g.locals.size = c.maxLocals) {argsL rest : List Value} (hlen : ∀ sig, parseMethodDescriptor y.desc = some sig → argsL.length = sig.parameters.length)
    (hstack : g.stack = argsL.reverse ++ rest) (hW : 2 * g.monitorRoom + (rest.map fun v => v.category).sum ≤ W9) (hdg : decode c.code g.pc = .ok (.invokestatic index, 3))
    (hpre : ∀ vm₁, s.WarmedH vm₁ → Pre ⟨T.setVm vm₁, locs, cells, slots⟩ argsL.toArray) :
    (∃ (v : Option Value) (vm₁ : Vm) (B : Pt), s.WarmedH vm₁ ∧ Stand p l e R s m args below meth c B.U B.locs B.cells B.slots ∧ Post ⟨T.setVm vm₁, locs, cells, slots⟩ argsL.toArray v B ∧
      ∀ target, Steps p.tables e below (B.U.setTop { g with pc := g.pc + 3, stack := v.toList ++ rest }) target → Steps p.tables e below (T.setTop g) target) ∨
    (∃ (q : Addr) (vm₁ : Vm) (B : Pt), s.WarmedH vm₁ ∧ Stand p l e R s m args below meth c B.U B.locs B.cells B.slots ∧ PostX ⟨T.setVm vm₁, locs, cells, slots⟩ argsL.toArray q B ∧
      Steps p.tables e below (T.setTop g) ((B.U.setTop { g with stack := rest }).pushFrame (.throwing q))) := by
  obtain ⟨mk, hnamed⟩ := Cond.code_named hcode
  obtain ⟨methM, cM, hmethM, -, -, -, -, -, -, hsigM⟩ := Cond.code_spec hnamed hcode
  have hstatic : methM.isStatic = true := Cond.static_spec hnamed hmethM hstat
  obtain ⟨kP, hkP, -⟩ := className_of_methodNamed hnamed
  have hinitP : kP.init = .initialized := Cond.initialized_spec (findClass_of_methodNamed hnamed) hkP hinit
  obtain ⟨vm₁, X₁, hstep₁⟩ := X.invokestatic hexec hown hlink hnamed hmethM hstatic hkP hinitP hy (g := g) hg (argsL := argsL) (rest := rest) (hlen _ hsigM) hstack hdg
  rcases hK m meth c ⟨T.setVm vm₁, locs, cells, slots⟩ { g with stack := rest } (.invokestatic index) mk argsL.toArray X₁ hg hsize hdg hW (X₁.named hnamed) (hpre vm₁ X₁.warmed) with ⟨v, B, X', hpost, hsteps⟩ | ⟨q, B, X', hpost, hsteps⟩
  · exact Or.inl ⟨v, vm₁, B, X₁.warmed, X', hpost, fun target h => hstep₁ _ fun acts => by rw [doInvoke_state]; exact hsteps.trans h⟩
  · exact Or.inr ⟨q, vm₁, B, X₁.warmed, X', hpost, hstep₁ _ fun acts => by rw [doInvoke_state]; exact hsteps⟩
end Calls
theorem vx_cls {s : State} {T : State} {vm₁ : Vm} {E : String} {k : ClassId} (hW : s.WarmedH vm₁) (h : (T.setVm vm₁).vm.findClass E = some k) : s.vm.findClass E = some k := by
  have h1 : vm₁.findClass E = some k := h
  rw [hW.alike.findClass] at h1
  exact h1
/-- the method's frame g, with q thrown over it -/
def vx_W (p : Program) (l : Launch) (e : Env) (R : Room) (s : State) (m : MethodId) (args : Array Value) (below : List Frame) (meth : Method) (c : Code) (H : Heap) (locs : List Loc) (cells slots : Nat) (Q : State → Prop) (g : JFrame) (q : Addr) : Prop :=
  ∀ T : State, T.heap = H → Stand p l e R s m args below meth c T locs cells slots → ∃ t, Steps p.tables e below ((T.setTop g).pushFrame (.throwing q)) t ∧ Q t
def vx_Run (p : Program) (l : Launch) (e : Env) (R : Room) (s : State) (m : MethodId) (args : Array Value) (below : List Frame) (meth : Method) (c : Code) (H : Heap) (locs : List Loc) (cells slots mc ms : Nat) (g : JFrame) (rest : List Value) (Qa : State → Outcome → State → Prop) (XC : String → State → State → Prop) (free : Addr → Prop) : Prop :=
  ∀ T : State, T.heap = H → Stand p l e R s m args below meth c T locs cells slots →
    (∃ (v : Option Value) (st₀ t T' : State) (L : List Loc), st₀.heap = H ∧ Stand p l e R s m args below meth c T' (locs ++ L) (cells + mc) (slots + ms) ∧ (∀ q ∈ L, free q.base) ∧ T'.heap = t.heap ∧ T'.vm = t.vm ∧ Qa st₀ (.returned v) t ∧
      Goes p e below T g T' { g with pc := g.pc + 3, stack := v.toList ++ rest }) ∨
    (∃ (q : Addr) (st₀ t T' : State) (L : List Loc) (E : String) (ce : Cell), st₀.heap = H ∧ Stand p l e R s m args below meth c T' (locs ++ L) (cells + mc) (slots + ms) ∧ (∀ z ∈ L, free z.base) ∧ T'.heap = t.heap ∧ T'.vm = t.vm ∧ XC E st₀ t ∧ t.heap[q]? = some ce ∧ ce.vm = .none ∧ s.vm.findClass E = some ce.cls ∧
      Steps p.tables e below (T.setTop g) ((T'.setTop { g with stack := rest }).pushFrame (.throwing q)))
def vx_X {S : Type} (px : S → Prop) (B : String → S → State → Prop) (A : Nat → Prop) : String → State → State → Prop := fun E st t => ∃ u : S, px u ∧ B E u t ∧ va_F A st t
section Runs
variable {p : Program} {l : Launch} {e : Env} {R : Room} {s : State} {m : MethodId} {args : Array Value} {below : List Frame} {meth : Method} {c : Code} {H : Heap} {locs : List Loc} {cells slots : Nat}
variable {y : MethodName} {bytes cc : ByteArray} {maxL nL mc ms n index : Nat} {ret : Option FieldType} {ws : List Cond} {rm : Room} {Pc : Array Value → State → Prop} {Qc : Array Value → State → Outcome → State → Prop} {XC : String → State → State → Prop} {free : Addr → Prop} {Ts : List Cond} {own C : String} {b : Addr} {As rest : List Value} {g : JFrame}
theorem vx_callBack (cb : CallB R s args own index y bytes maxL ret ws rm mc ms n) (hM : vx_Met l y ws rm Pc Qc XC mc ms free) (hbl : FrameBlind Pc) : vx_Back l R p e below s args y 3 8 (PreOf R mc ms Pc) (PostOf Qc mc ms free) (vx_Post XC mc ms free) := by
  obtain ⟨hrc, hrs, hfr, hlo, hws, hcw, -, hini, -⟩ := cb
  exact vx_back (bytes := bytes) (maxL := maxL) (ret := ret) hM hbl hrc hrs hfr hlo hws hcw (fun a' U hW => word_at hW (Or.inl (by first | rfl | simp [Cond.onTables, Cond.keeps, Cond.steady])) hini)
theorem vx_runV (S : CallFix p m c cc nL s args Ts own) (hM : vx_Met l y ws rm Pc Qc XC mc ms free) (cw : CallW R s args own C index y bytes maxL ret ws rm mc ms n) (hp : PreV s H C b Pc As)
    (hg : g.method = m) (hn : As.length = n) (hsize : g.locals.size = nL) (hstack : g.stack = As.reverse ++ .ref b :: rest) (hW : 2 * g.monitorRoom + (rest.map fun v => v.category).sum ≤ 8) (hdg : decode cc g.pc = .ok (.invokevirtual index, 3)) (hf : cells + mc ≤ R.cells ∧ slots + ms ≤ R.slots) :
    vx_Run p l e R s m args below meth c H locs cells slots mc ms g rest (Qc (Value.ref b :: As).toArray) XC free := by
  have hK : vx_Back l R p e below s args y 3 8 (PreOf R mc ms Pc) (PostOf Qc mc ms free) (vx_Post XC mc ms free) := vx_callBack cw.1 hM hp.1
  obtain ⟨⟨-, -, -, -, -, -, hcode, -, hy, hlen, hl⟩, hin, hse⟩ := cw
  obtain ⟨hx, hb, hml, ho, -⟩ := S
  obtain ⟨-, ⟨cellB, hcB, hoB, hclB⟩, hPc⟩ := hp
  intro T hT X
  rcases vx_callV X hx (C := C) (bytes := bytes) (maxL := maxL) (ret := ret) ho hl hin hse hcode hy hK (by rw [hT]; exact hcB) hoB hclB hg (hsize.trans hml.symm) (argsL := As) (rest := rest) (fun sig h => hn.trans (hlen sig h)) hstack hW (by rw [hb]; exact hdg)
    (fun vm₁ hW₁ => ⟨hf.1, hf.2, hPc (T.setVm vm₁) hT hW₁⟩) with ⟨v, vm₁, ⟨U', l2, c2, s2⟩, hW₁, X', ⟨g', mk, t, L, e1, e2, hq, h1, hL, h2, h3⟩, st⟩ | ⟨q, vm₁, ⟨U', l2, c2, s2⟩, hW₁, X', ⟨g', mk, t, L, E, ce, e1, e2, hq, hce, hcv, hcl, h1, hL, h2, h3⟩, st⟩
  · dsimp only [Pt.U, Pt.locs, Pt.cells, Pt.slots] at X' e1 e2 h1 h2 h3 st
    subst h1; subst h2; subst h3
    exact Or.inl ⟨v, (T.setVm vm₁).calling g' mk (Value.ref b :: As).toArray, t, U', L, hT, X', hL, e1, e2, hq, st⟩
  · dsimp only [Pt.U, Pt.locs, Pt.cells, Pt.slots] at X' e1 e2 h1 h2 h3 st hcl
    subst h1; subst h2; subst h3
    exact Or.inr ⟨q, (T.setVm vm₁).calling g' mk (Value.ref b :: As).toArray, t, U', L, E, ce, hT, X', hL, e1, e2, hq, hce, hcv, vx_cls hW₁ hcl, st⟩
theorem vx_runS (S : CallFix p m c cc nL s args Ts own) (hM : vx_Met l y ws rm Pc Qc XC mc ms free) (cw : CallB R s args own index y bytes maxL ret ws rm mc ms n ∧ (Cond.static y).before args s = true) (hp : PreS s H Pc As)
    (hg : g.method = m) (hn : As.length = n) (hsize : g.locals.size = nL) (hstack : g.stack = As.reverse ++ rest) (hW : 2 * g.monitorRoom + (rest.map fun v => v.category).sum ≤ 8) (hdg : decode cc g.pc = .ok (.invokestatic index, 3)) (hf : cells + mc ≤ R.cells ∧ slots + ms ≤ R.slots) :
    vx_Run p l e R s m args below meth c H locs cells slots mc ms g rest (Qc As.toArray) XC free := by
  have hK : vx_Back l R p e below s args y 3 8 (PreOf R mc ms Pc) (PostOf Qc mc ms free) (vx_Post XC mc ms free) := vx_callBack cw.1 hM hp.1
  obtain ⟨⟨-, -, -, -, -, -, hcode, hini, hy, hlen, hl⟩, hstt⟩ := cw
  obtain ⟨hx, hb, hml, ho, -⟩ := S
  intro T hT X
  rcases vx_callS X hx (bytes := bytes) (maxL := maxL) (ret := ret) ho hl hstt hini hcode hy hK hg (hsize.trans hml.symm) (argsL := As) (rest := rest) (fun sig h => hn.trans (hlen sig h)) hstack hW (by rw [hb]; exact hdg)
    (fun vm₁ hW₁ => ⟨hf.1, hf.2, hp.2 (T.setVm vm₁) hT hW₁⟩) with ⟨v, vm₁, ⟨U', l2, c2, s2⟩, hW₁, X', ⟨g', mk, t, L, e1, e2, hq, h1, hL, h2, h3⟩, st⟩ | ⟨q, vm₁, ⟨U', l2, c2, s2⟩, hW₁, X', ⟨g', mk, t, L, E, ce, e1, e2, hq, hce, hcv, hcl, h1, hL, h2, h3⟩, st⟩
  · dsimp only [Pt.U, Pt.locs, Pt.cells, Pt.slots] at X' e1 e2 h1 h2 h3 st
    subst h1; subst h2; subst h3
    exact Or.inl ⟨v, (T.setVm vm₁).calling g' mk As.toArray, t, U', L, hT, X', hL, e1, e2, hq, st⟩
  · dsimp only [Pt.U, Pt.locs, Pt.cells, Pt.slots] at X' e1 e2 h1 h2 h3 st hcl
    subst h1; subst h2; subst h3
    exact Or.inr ⟨q, (T.setVm vm₁).calling g' mk As.toArray, t, U', L, E, ce, hT, X', hL, e1, e2, hq, hce, hcv, vx_cls hW₁ hcl, st⟩
end Runs
section Rows
variable {p : Program} {l : Launch} {e : Env} {R : Room} {s : State} {m : MethodId} {args : Array Value} {below : List Frame} {meth : Method} {c : Code} {H : Heap} {locs : List Loc} {cells slots : Nat} {Q : State → Prop}
variable {mc ms : Nat} {free : Addr → Prop} {A0 A1 : Nat → Prop} {H0 : Heap} {a : Array Value} {pc : Nat} {ls : Array Slot} {st0 rest : List Value}
theorem vx_keep {st₀ t T' : State} {L : List Loc} (h0 : st₀.heap = H) (e1 : T'.heap = t.heap) (hS : va_S A0 H0 H locs) (hA : ∀ q, q < H.size → A1 q → A0 q) (hf : ∀ q, free q → A0 q) (hL : ∀ q ∈ L, free q.base) (hF : va_F A1 st₀ t) :
    H.size ≤ T'.heap.size ∧ (∀ q : Nat, q < H.size → ¬ A1 q → T'.heap[q]? = H[q]?) ∧ va_S A0 H0 T'.heap (locs ++ L) := by
  obtain ⟨hz, hk⟩ := hF
  rw [h0] at hz hk
  exact ⟨by rw [e1]; exact hz, fun q h1 h2 => by rw [e1]; exact hk q h1 h2,
    ⟨Nat.le_trans hS.1 (by rw [e1]; exact hz), fun q h1 h2 => by rw [e1, hk q (Nat.lt_of_lt_of_le h1 hS.1) (fun z => h2 (hA q (Nat.lt_of_lt_of_le h1 hS.1) z))]; exact hS.2.1 q h1 h2, fun q hq => by
      rcases List.mem_append.mp hq with h | h
      · exact hS.2.2 q h
      · exact hf _ (hL q h)⟩⟩
theorem vx_calli {S SX : Type} {post : Int32 → S → Prop} {px : SX → Prop} {B : S → State → Prop} {BX : String → SX → State → Prop} {AX : Nat → Prop} (hr : vx_Run p l e R s m args below meth c H locs cells slots mc ms (F0 m pc ls st0) rest (va_Qi post B A1 a) (vx_X px BX AX) free) (hS : va_S A0 H0 H locs) (hA : ∀ q, q < H.size → A1 q → A0 q) (hf : ∀ q, free q → A0 q) (hAX : ∀ q, q < H.size → AX q → A0 q)
    (kx : ∀ (E : String) (ce : Cell) (q9 : Addr) (u : SX) (t : State) (H1 : Heap) (locs1 : List Loc), t.heap = H1 → s.vm.Alike t.vm → px u → BX E u t → H.size ≤ H1.size → (∀ q : Nat, q < H.size → ¬ AX q → H1[q]? = H[q]?) → va_S A0 H0 H1 locs1 → H1[q9]? = some ce → ce.vm = .none → s.vm.findClass E = some ce.cls → vx_W p l e R s m args below meth c H1 locs1 (cells + mc) (slots + ms) Q (F0 m pc ls rest) q9)
    (kk : ∀ (r : Int32) (u : S) (t : State) (H1 : Heap) (locs1 : List Loc), t.heap = H1 → s.vm.Alike t.vm → post r u → B u t → H.size ≤ H1.size → (∀ q : Nat, q < H.size → ¬ A1 q → H1[q]? = H[q]?) → va_S A0 H0 H1 locs1 → W p l e R s m args below meth c H1 locs1 (cells + mc) (slots + ms) Q (F0 m (pc + 3) ls (.int r :: rest))) : W p l e R s m args below meth c H locs cells slots Q (F0 m pc ls st0) := by
  intro T hT X
  rcases hr T hT X with ⟨v, st₀, t, T', L, h0, X', hL, e1, e2, ⟨⟨r, u, hv, hp, hb⟩, hF⟩, st⟩ | ⟨q, st₀, t, T', L, E, ce, h0, X', hL, e1, e2, ⟨u, hp, hb, hF⟩, hce, hcv, hcl, st⟩
  · cases hv
    obtain ⟨k1, k2, k3⟩ := vx_keep h0 e1 hS hA hf hL hF
    obtain ⟨t2, a1, b1⟩ := kk r u t T'.heap (locs ++ L) e1.symm (by rw [← e2]; exact X'.warmed.alike) hp hb k1 k2 k3 T' rfl X'
    exact ⟨t2, st t2 a1, b1⟩
  · obtain ⟨k1, k2, k3⟩ := vx_keep h0 e1 hS hAX hf hL hF
    obtain ⟨t2, a1, b1⟩ := kx E ce q u t T'.heap (locs ++ L) e1.symm (by rw [← e2]; exact X'.warmed.alike) hp hb k1 k2 k3 (by rw [e1]; exact hce) hcv hcl T' rfl X'
    exact ⟨t2, st.trans a1, b1⟩
theorem vx_calll {S SX : Type} {post : Int64 → S → Prop} {px : SX → Prop} {B : S → State → Prop} {BX : String → SX → State → Prop} {AX : Nat → Prop} (hr : vx_Run p l e R s m args below meth c H locs cells slots mc ms (F0 m pc ls st0) rest (va_Ql post B A1 a) (vx_X px BX AX) free) (hS : va_S A0 H0 H locs) (hA : ∀ q, q < H.size → A1 q → A0 q) (hf : ∀ q, free q → A0 q) (hAX : ∀ q, q < H.size → AX q → A0 q)
    (kx : ∀ (E : String) (ce : Cell) (q9 : Addr) (u : SX) (t : State) (H1 : Heap) (locs1 : List Loc), t.heap = H1 → s.vm.Alike t.vm → px u → BX E u t → H.size ≤ H1.size → (∀ q : Nat, q < H.size → ¬ AX q → H1[q]? = H[q]?) → va_S A0 H0 H1 locs1 → H1[q9]? = some ce → ce.vm = .none → s.vm.findClass E = some ce.cls → vx_W p l e R s m args below meth c H1 locs1 (cells + mc) (slots + ms) Q (F0 m pc ls rest) q9)
    (kk : ∀ (r : Int64) (u : S) (t : State) (H1 : Heap) (locs1 : List Loc), t.heap = H1 → s.vm.Alike t.vm → post r u → B u t → H.size ≤ H1.size → (∀ q : Nat, q < H.size → ¬ A1 q → H1[q]? = H[q]?) → va_S A0 H0 H1 locs1 → W p l e R s m args below meth c H1 locs1 (cells + mc) (slots + ms) Q (F0 m (pc + 3) ls (.long r :: rest))) : W p l e R s m args below meth c H locs cells slots Q (F0 m pc ls st0) := by
  intro T hT X
  rcases hr T hT X with ⟨v, st₀, t, T', L, h0, X', hL, e1, e2, ⟨⟨r, u, hv, hp, hb⟩, hF⟩, st⟩ | ⟨q, st₀, t, T', L, E, ce, h0, X', hL, e1, e2, ⟨u, hp, hb, hF⟩, hce, hcv, hcl, st⟩
  · cases hv
    obtain ⟨k1, k2, k3⟩ := vx_keep h0 e1 hS hA hf hL hF
    obtain ⟨t2, a1, b1⟩ := kk r u t T'.heap (locs ++ L) e1.symm (by rw [← e2]; exact X'.warmed.alike) hp hb k1 k2 k3 T' rfl X'
    exact ⟨t2, st t2 a1, b1⟩
  · obtain ⟨k1, k2, k3⟩ := vx_keep h0 e1 hS hAX hf hL hF
    obtain ⟨t2, a1, b1⟩ := kx E ce q u t T'.heap (locs ++ L) e1.symm (by rw [← e2]; exact X'.warmed.alike) hp hb k1 k2 k3 (by rw [e1]; exact hce) hcv hcl T' rfl X'
    exact ⟨t2, st.trans a1, b1⟩
theorem vx_callf {S SX : Type} {post : UInt32 → S → Prop} {px : SX → Prop} {B : S → State → Prop} {BX : String → SX → State → Prop} {AX : Nat → Prop} (hr : vx_Run p l e R s m args below meth c H locs cells slots mc ms (F0 m pc ls st0) rest (va_Qf post B A1 a) (vx_X px BX AX) free) (hS : va_S A0 H0 H locs) (hA : ∀ q, q < H.size → A1 q → A0 q) (hf : ∀ q, free q → A0 q) (hAX : ∀ q, q < H.size → AX q → A0 q)
    (kx : ∀ (E : String) (ce : Cell) (q9 : Addr) (u : SX) (t : State) (H1 : Heap) (locs1 : List Loc), t.heap = H1 → s.vm.Alike t.vm → px u → BX E u t → H.size ≤ H1.size → (∀ q : Nat, q < H.size → ¬ AX q → H1[q]? = H[q]?) → va_S A0 H0 H1 locs1 → H1[q9]? = some ce → ce.vm = .none → s.vm.findClass E = some ce.cls → vx_W p l e R s m args below meth c H1 locs1 (cells + mc) (slots + ms) Q (F0 m pc ls rest) q9)
    (kk : ∀ (r : UInt32) (u : S) (t : State) (H1 : Heap) (locs1 : List Loc), t.heap = H1 → s.vm.Alike t.vm → post r u → B u t → H.size ≤ H1.size → (∀ q : Nat, q < H.size → ¬ A1 q → H1[q]? = H[q]?) → va_S A0 H0 H1 locs1 → W p l e R s m args below meth c H1 locs1 (cells + mc) (slots + ms) Q (F0 m (pc + 3) ls (.float r :: rest))) : W p l e R s m args below meth c H locs cells slots Q (F0 m pc ls st0) := by
  intro T hT X
  rcases hr T hT X with ⟨v, st₀, t, T', L, h0, X', hL, e1, e2, ⟨⟨r, u, hv, hp, hb⟩, hF⟩, st⟩ | ⟨q, st₀, t, T', L, E, ce, h0, X', hL, e1, e2, ⟨u, hp, hb, hF⟩, hce, hcv, hcl, st⟩
  · cases hv
    obtain ⟨k1, k2, k3⟩ := vx_keep h0 e1 hS hA hf hL hF
    obtain ⟨t2, a1, b1⟩ := kk r u t T'.heap (locs ++ L) e1.symm (by rw [← e2]; exact X'.warmed.alike) hp hb k1 k2 k3 T' rfl X'
    exact ⟨t2, st t2 a1, b1⟩
  · obtain ⟨k1, k2, k3⟩ := vx_keep h0 e1 hS hAX hf hL hF
    obtain ⟨t2, a1, b1⟩ := kx E ce q u t T'.heap (locs ++ L) e1.symm (by rw [← e2]; exact X'.warmed.alike) hp hb k1 k2 k3 (by rw [e1]; exact hce) hcv hcl T' rfl X'
    exact ⟨t2, st.trans a1, b1⟩
theorem vx_calld {S SX : Type} {post : UInt64 → S → Prop} {px : SX → Prop} {B : S → State → Prop} {BX : String → SX → State → Prop} {AX : Nat → Prop} (hr : vx_Run p l e R s m args below meth c H locs cells slots mc ms (F0 m pc ls st0) rest (va_Qd post B A1 a) (vx_X px BX AX) free) (hS : va_S A0 H0 H locs) (hA : ∀ q, q < H.size → A1 q → A0 q) (hf : ∀ q, free q → A0 q) (hAX : ∀ q, q < H.size → AX q → A0 q)
    (kx : ∀ (E : String) (ce : Cell) (q9 : Addr) (u : SX) (t : State) (H1 : Heap) (locs1 : List Loc), t.heap = H1 → s.vm.Alike t.vm → px u → BX E u t → H.size ≤ H1.size → (∀ q : Nat, q < H.size → ¬ AX q → H1[q]? = H[q]?) → va_S A0 H0 H1 locs1 → H1[q9]? = some ce → ce.vm = .none → s.vm.findClass E = some ce.cls → vx_W p l e R s m args below meth c H1 locs1 (cells + mc) (slots + ms) Q (F0 m pc ls rest) q9)
    (kk : ∀ (r : UInt64) (u : S) (t : State) (H1 : Heap) (locs1 : List Loc), t.heap = H1 → s.vm.Alike t.vm → post r u → B u t → H.size ≤ H1.size → (∀ q : Nat, q < H.size → ¬ A1 q → H1[q]? = H[q]?) → va_S A0 H0 H1 locs1 → W p l e R s m args below meth c H1 locs1 (cells + mc) (slots + ms) Q (F0 m (pc + 3) ls (.double r :: rest))) : W p l e R s m args below meth c H locs cells slots Q (F0 m pc ls st0) := by
  intro T hT X
  rcases hr T hT X with ⟨v, st₀, t, T', L, h0, X', hL, e1, e2, ⟨⟨r, u, hv, hp, hb⟩, hF⟩, st⟩ | ⟨q, st₀, t, T', L, E, ce, h0, X', hL, e1, e2, ⟨u, hp, hb, hF⟩, hce, hcv, hcl, st⟩
  · cases hv
    obtain ⟨k1, k2, k3⟩ := vx_keep h0 e1 hS hA hf hL hF
    obtain ⟨t2, a1, b1⟩ := kk r u t T'.heap (locs ++ L) e1.symm (by rw [← e2]; exact X'.warmed.alike) hp hb k1 k2 k3 T' rfl X'
    exact ⟨t2, st t2 a1, b1⟩
  · obtain ⟨k1, k2, k3⟩ := vx_keep h0 e1 hS hAX hf hL hF
    obtain ⟨t2, a1, b1⟩ := kx E ce q u t T'.heap (locs ++ L) e1.symm (by rw [← e2]; exact X'.warmed.alike) hp hb k1 k2 k3 (by rw [e1]; exact hce) hcv hcl T' rfl X'
    exact ⟨t2, st.trans a1, b1⟩
theorem vx_callv {S SX : Type} {post : S → Prop} {px : SX → Prop} {B : S → State → Prop} {BX : String → SX → State → Prop} {AX : Nat → Prop} (hr : vx_Run p l e R s m args below meth c H locs cells slots mc ms (F0 m pc ls st0) rest (va_Qv post B A1 a) (vx_X px BX AX) free) (hS : va_S A0 H0 H locs) (hA : ∀ q, q < H.size → A1 q → A0 q) (hf : ∀ q, free q → A0 q) (hAX : ∀ q, q < H.size → AX q → A0 q)
    (kx : ∀ (E : String) (ce : Cell) (q9 : Addr) (u : SX) (t : State) (H1 : Heap) (locs1 : List Loc), t.heap = H1 → s.vm.Alike t.vm → px u → BX E u t → H.size ≤ H1.size → (∀ q : Nat, q < H.size → ¬ AX q → H1[q]? = H[q]?) → va_S A0 H0 H1 locs1 → H1[q9]? = some ce → ce.vm = .none → s.vm.findClass E = some ce.cls → vx_W p l e R s m args below meth c H1 locs1 (cells + mc) (slots + ms) Q (F0 m pc ls rest) q9)
    (kk : ∀ (u : S) (t : State) (H1 : Heap) (locs1 : List Loc), t.heap = H1 → s.vm.Alike t.vm → post u → B u t → H.size ≤ H1.size → (∀ q : Nat, q < H.size → ¬ A1 q → H1[q]? = H[q]?) → va_S A0 H0 H1 locs1 → W p l e R s m args below meth c H1 locs1 (cells + mc) (slots + ms) Q (F0 m (pc + 3) ls (rest))) : W p l e R s m args below meth c H locs cells slots Q (F0 m pc ls st0) := by
  intro T hT X
  rcases hr T hT X with ⟨v, st₀, t, T', L, h0, X', hL, e1, e2, ⟨⟨u, hv, hp, hb⟩, hF⟩, st⟩ | ⟨q, st₀, t, T', L, E, ce, h0, X', hL, e1, e2, ⟨u, hp, hb, hF⟩, hce, hcv, hcl, st⟩
  · cases hv
    obtain ⟨k1, k2, k3⟩ := vx_keep h0 e1 hS hA hf hL hF
    obtain ⟨t2, a1, b1⟩ := kk u t T'.heap (locs ++ L) e1.symm (by rw [← e2]; exact X'.warmed.alike) hp hb k1 k2 k3 T' rfl X'
    exact ⟨t2, st t2 a1, b1⟩
  · obtain ⟨k1, k2, k3⟩ := vx_keep h0 e1 hS hAX hf hL hF
    obtain ⟨t2, a1, b1⟩ := kx E ce q u t T'.heap (locs ++ L) e1.symm (by rw [← e2]; exact X'.warmed.alike) hp hb k1 k2 k3 (by rw [e1]; exact hce) hcv hcl T' rfl X'
    exact ⟨t2, st.trans a1, b1⟩
/-- caught by the row x of this method's table; the rows ahead don't take it -/
theorem vx_catch {own name : String} {E : String} {ce : Cell} {q : Addr} (hown : s.vm.findClass own = some m.cls) (pre : List ExceptionTableEntry) (x : ExceptionTableEntry) (suf : List ExceptionTableEntry) (hsplit : c.exceptionTable.toList = pre ++ x :: suf)
    (hpass : ∀ z ∈ pre, covers z pc = false ∨ (z.catchType ≠ 0 ∧ ∃ nm : String, (Cond.classLink own z.catchType nm).before args s = true ∧ va_Nc E nm s)) (hx : covers x pc = true) (h0 : x.catchType ≠ 0)
    (hlink : (Cond.classLink own x.catchType name).before args s = true) (hcast : (Cond.castable E name).before args s = true) (hcell : H[q]? = some ce) (hv : ce.vm = .none) (hcl : s.vm.findClass E = some ce.cls)
    (kk : W p l e R s m args below meth c H locs cells slots Q (F0 m x.handlerPc ls [.ref q])) : vx_W p l e R s m args below meth c H locs cells slots Q (F0 m pc ls rest) q := by
  intro T hT X
  have hpl : e.platform.magicAccessors = ({} : Platform).magicAccessors := by rw [X.admits.platform]
  obtain ⟨c3, c4, hc3, hc4, hasg⟩ := Cond.castable_spec hcast
  cases Option.some.inj (hc3.symm.trans hcl)
  obtain ⟨c5, hc5, hcl5⟩ := Cond.classLink_spec hown hlink e.platform hpl
  cases Option.some.inj (hc4.symm.trans hc5)
  obtain ⟨vm', X', st⟩ := X.thenCaughtThrough q (g := F0 m pc ls rest) rfl (Steps.refl _) (by rw [hT]; exact hcell) (by rw [hv]; rfl) (by obtain ⟨k9, h9, -⟩ := Vm.findClass_spec hcl; exact ⟨k9, h9⟩) pre x suf hsplit
    (fun z hz => by
      rcases hpass z hz with h | ⟨hz0, nm, hl1, hn1⟩
      · exact Or.inl h
      · obtain ⟨c6, hc6, hcl6⟩ := Cond.classLink_spec hown hl1 e.platform hpl
        obtain ⟨a8, b8, h1, h2, h3⟩ := hn1
        cases Option.some.inj (h1.symm.trans hcl)
        cases Option.some.inj (h2.symm.trans hc6)
        exact Or.inr ⟨hz0, _, hcl6, h3⟩) hx (Or.inr ⟨h0, c4, hcl5, hasg⟩)
  obtain ⟨t, a1, b1⟩ := kk (T.setVm vm') hT X'
  exact ⟨t, st.trans a1, b1⟩
end Rows
section Ends
variable {p : Program} {l : Launch} {e : Env} {R : Room} {s : State} {m : MethodId} {args : Array Value} {below : List Frame} {meth : Method} {c : Code} {H : Heap} {locs : List Loc} {cells slots : Nat} {Q : State → Prop}
variable {mc ms : Nat} {free : Addr → Prop} {A0 A1 : Nat → Prop} {H0 : Heap} {a : Array Value} {ls : Array Slot} {st0 rest : List Value}
variable {Qc : Array Value → State → Outcome → State → Prop} {XC : String → State → State → Prop}
/-- what a body that may throw owes at its end -/
def vx_MQ (below : List Frame) (Qc : Array Value → State → Outcome → State → Prop) (XC : String → State → State → Prop) (a : Array Value) (s : State) (mc ms : Nat) (free : Addr → Prop) : State → Prop := fun t =>
  ∃ o, t.status = .running ∧ Ended t below o ∧ vx_Q Qc XC mc ms free a s o t
theorem vx_ret {g : JFrame} {mc ms : Nat} (k : W p l e R s m args below meth c H locs cells slots (MQ below Qc args s mc ms free) g) : W p l e R s m args below meth c H locs cells slots (vx_MQ below Qc XC args s mc ms free) g := by
  intro T hT X
  obtain ⟨t, a1, o, b1, b2, b3, b4⟩ := k T hT X
  exact ⟨t, a1, o, b1, b2, Or.inl ⟨b3, b4⟩⟩
/-- not caught here: it goes on to the caller -/
theorem vx_widen {g : JFrame} {q : Addr} {k n : Nat} (h1 : cells ≤ k) (h2 : slots ≤ n) (kk : vx_W p l e R s m args below meth c H locs k n Q g q) : vx_W p l e R s m args below meth c H locs cells slots Q g q := fun T hT X => kk T hT (stand_widen X h1 h2)
theorem vx_out {pc : Nat} {E : String} {ce : Cell} {q : Addr} {mc ms : Nat} (hout : ∀ x ∈ c.exceptionTable.toList, covers x pc = false) (hlocks : meth.locks = false) (hcell : H[q]? = some ce) (hv : ce.vm = .none) (hcl : s.vm.findClass E = some ce.cls)
    (hx : ∀ t : State, t.heap = H → s.vm.Alike t.vm → XC E s t) (hf : ∀ z ∈ locs, free z.base) (hc : cells ≤ mc) (hs : slots ≤ ms) :
    vx_W p l e R s m args below meth c H locs cells slots (vx_MQ below Qc XC args s mc ms free) (F0 m pc ls rest) q := by
  intro T hT X
  obtain ⟨st1, hrun, hend, hW, hsm⟩ := X.leaveThrown q (g := F0 m pc ls rest) rfl rfl rfl hout hlocks
  have hcell9 : (T.setFrames (.throwing q :: below)).heap[q]? = some ce := by
    show T.heap[q]? = some ce
    rw [hT]; exact hcell
  exact ⟨_, st1, .threw q, hrun, hend, Or.inr ⟨q, rfl, E, ce, locs, hx _ hT hW.alike, hcell9, hv, hcl, hW, hsm.mono hc hs, hf⟩⟩
theorem vx_frame {U : State} {k n : Nat} (h : s.sameButNew ({ U with vm := s.vm } : State) locs k n) : s.heap.size ≤ U.heap.size ∧ ∀ q : Nat, q < s.heap.size → (∀ z ∈ locs, z.base ≠ q) → U.heap[q]? = s.heap[q]? := by
  obtain ⟨-, h2, -, -, -, h6⟩ := h
  refine ⟨h2, fun q hq hz => ?_⟩
  obtain ⟨c9, e1, e2, e3, e4⟩ := h6 q _ (Array.getElem?_eq_getElem hq)
  have hs : c9.slots = (s.heap[q]).slots := Array.ext_getElem? fun i => e4 i fun hm => hz _ hm rfl
  have h9 : c9 = s.heap[q] := by
    rw [hs] at e2
    exact e2
  have e5 : U.heap[q]? = some c9 := e1
  rw [e5, h9, Array.getElem?_eq_getElem hq]
/-- the words of a throw but the four that speak of the heap -/
def vx_no (w : Cond) : Bool := decide (w ≠ .isRef (.static Bundle.tN "UNASSIGNED_STACK" Bundle.steD)) && decide (w ≠ .isRef (.static Bundle.tN "SUPPRESSED_SENTINEL" Bundle.listD)) && decide (w ≠ .laysStatic Bundle.tN "UNASSIGNED_STACK" Bundle.steD) && decide (w ≠ .laysStatic Bundle.tN "SUPPRESSED_SENTINEL" Bundle.listD)
def vx_at0 (own : String) (ic : Nat) (X : String) (names : List String) : List Cond := (Bundle.ownAtoms0 own ic X names).filter vx_no
def vx_atS (own : String) (ic : Nat) (X : String) (names : List String) : List Cond := (Bundle.ownAtoms own ic X names).filter vx_no
/-- a word that the tables alone decide, or a good one -/
def vx_ot (w : Cond) : Bool := w.onTables || goodWord w
theorem vx_ot_at {args a' : Array Value} {s U : State} {w : Cond} (hW : s.WarmedH U.vm) (hvm : s.vm = U.vm) (hg : vx_ot w = true) (h : w.before args s = true) : w.before a' U = true := by
  simp only [vx_ot, Bool.or_eq_true] at hg
  rcases hg with hg | hg
  · exact va_tabs hg hvm h
  · exact word_at hW (good_of_word hg) h
/-- a list's words: the good ones out of the method's own list, the others by premises of their own -/
theorem vx_hat {args : Array Value} {s : State} {L B : List Cond} (h1 : ∀ w ∈ L.filter goodWord, w.before args s = true) (h2 : ∀ w ∈ L.filter (fun w => !goodWord w), w ∈ B) (h3 : ∀ w ∈ B, w.before args s = true) : ∀ w ∈ L, w.before args s = true := by
  intro w hw
  by_cases g : goodWord w = true
  · exact h1 w (List.mem_filter.mpr ⟨hw, g⟩)
  · refine h3 w (h2 w (List.mem_filter.mpr ⟨hw, ?_⟩))
    show (!goodWord w) = true
    cases hgw : goodWord w
    · rfl
    · exact absurd hgw g
theorem vx_c {args : Array Value} {s : State} {w : Cond} {B : List Cond} (h : w.before args s = true) (t : ∀ w ∈ B, w.before args s = true) : ∀ w' ∈ w :: B, w'.before args s = true := fun w' h' => (List.mem_cons.mp h').elim (fun e => by rw [e]; exact h) (t w')
theorem vx_n {args : Array Value} {s : State} : ∀ w ∈ ([] : List Cond), w.before args s = true := fun _ h => nomatch h
theorem vx_own {args : Array Value} {s : State} {L : List Cond} (h1 : ∀ w ∈ L.filter vx_no, w.before args s = true)
    (hU : (Cond.isRef (.static Bundle.tN "UNASSIGNED_STACK" Bundle.steD)).before args s = true) (hN : (Cond.isRef (.static Bundle.tN "SUPPRESSED_SENTINEL" Bundle.listD)).before args s = true)
    (lU : (Cond.laysStatic Bundle.tN "UNASSIGNED_STACK" Bundle.steD).before args s = true) (lN : (Cond.laysStatic Bundle.tN "SUPPRESSED_SENTINEL" Bundle.listD).before args s = true) : ∀ w ∈ L, w.before args s = true := by
  intro w hw
  by_cases e1 : w = .isRef (.static Bundle.tN "UNASSIGNED_STACK" Bundle.steD)
  · rw [e1]; exact hU
  · by_cases e2 : w = .isRef (.static Bundle.tN "SUPPRESSED_SENTINEL" Bundle.listD)
    · rw [e2]; exact hN
    · by_cases e3 : w = .laysStatic Bundle.tN "UNASSIGNED_STACK" Bundle.steD
      · rw [e3]; exact lU
      · by_cases e4 : w = .laysStatic Bundle.tN "SUPPRESSED_SENTINEL" Bundle.listD
        · rw [e4]; exact lN
        · exact h1 w (List.mem_filter.mpr ⟨hw, by unfold vx_no; rw [decide_eq_true e1, decide_eq_true e2, decide_eq_true e3, decide_eq_true e4]; rfl⟩)
/-- where a static field lies, its class's statics cell in H -/
def vx_L (C n d : String) (A : Nat → Prop) (U : State) (H : Heap) : Prop := ∃ (c : ClassId) (k : Class) (i : Nat) (f : Field) (a : Nat) (cell : Cell), U.vm.findClass C = some c ∧ U.fieldFound? C n d = some (c, k, i, f) ∧ f.isStatic = true ∧ k.statics = some a ∧ H[a]? = some cell ∧ cell.vm.isStatics = true ∧ cell.cls = c ∧ f.slot < cell.slots.size ∧ k.staticTypes[f.slot]? = some f.type ∧ ¬ A a
theorem vx_L.moved {C n d : String} {A : Nat → Prop} {u U : State} {H : Heap} (hvm : u.vm.Alike U.vm) (h : vx_L C n d A u H) : vx_L C n d A U H := by
  obtain ⟨c, k, i, f, a, cell, h1, h2, h3, h4, h5, h6, h7, h8, h9, h10⟩ := h
  obtain ⟨k', hi', he⟩ := State.fieldFound?_setVm hvm h2
  exact ⟨c, k', i, f, a, cell, by rw [hvm.findClass]; exact h1, hi', h3, by rw [he]; exact h4, h5, h6, h7, h8, by rw [he]; exact h9, h10⟩
theorem vx_L.kept {C n d : String} {A : Nat → Prop} {U : State} {H H1 : Heap} (h : vx_L C n d A U H) (hq : ∀ a : Nat, a < H.size → ¬ A a → H1[a]? = H[a]?) : vx_L C n d A U H1 := by
  obtain ⟨c, k, i, f, a, cell, h1, h2, h3, h4, h5, h6, h7, h8, h9, h10⟩ := h
  exact ⟨c, k, i, f, a, cell, h1, h2, h3, h4, by rw [hq a (Array.getElem?_eq_some_iff.mp h5).1 h10]; exact h5, h6, h7, h8, h9, h10⟩
theorem vx_L.narrow {C n d : String} {A B : Nat → Prop} {U : State} {H : Heap} (h : vx_L C n d A U H) (hAB : ∀ q, B q → A q) : vx_L C n d B U H := by
  obtain ⟨c, k, i, f, a, cell, h1, h2, h3, h4, h5, h6, h7, h8, h9, h10⟩ := h
  exact ⟨c, k, i, f, a, cell, h1, h2, h3, h4, h5, h6, h7, h8, h9, fun z => h10 (hAB _ z)⟩
theorem vx_L.word {C n d : String} {A : Nat → Prop} {s : State} {args : Array Value} (h : vx_L C n d A s s.heap) : (Cond.laysStatic C n d).before args s = true := by
  obtain ⟨c, k, i, f, a, cell, h1, h2, h3, h4, h5, h6, h7, h8, h9, -⟩ := h
  show (Cond.laysStatic C n d).holds args s none s [] = true
  exact Cond.laysStatic_of h1 h2 h3 h4 h5 h6 h7 h8 h9
/-- .. and what it holds: null or some reference -/
def vx_Zq (C n d : String) (A : Nat → Prop) (U : State) (H : Heap) : Prop := va_Zq C n d A U H ∧ vx_L C n d A U H
theorem vx_Zq.moved {C n d : String} {A : Nat → Prop} {u U : State} {H : Heap} (hvm : u.vm.Alike U.vm) (h : vx_Zq C n d A u H) : vx_Zq C n d A U H := ⟨va_Zq.moved hvm h.1, vx_L.moved hvm h.2⟩
theorem vx_Zq.kept {C n d : String} {A : Nat → Prop} {U : State} {H H1 : Heap} (h : vx_Zq C n d A U H) (hq : ∀ a : Nat, a < H.size → ¬ A a → H1[a]? = H[a]?) : vx_Zq C n d A U H1 := ⟨va_Zq.kept h.1 hq, vx_L.kept h.2 hq⟩
theorem vx_Zq.narrow {C n d : String} {A B : Nat → Prop} {U : State} {H : Heap} (h : vx_Zq C n d A U H) (hAB : ∀ q, B q → A q) : vx_Zq C n d B U H := ⟨va_Zq.narrow h.1 hAB, vx_L.narrow h.2 hAB⟩
theorem vx_Zqof {args : Array Value} {s : State} {C n d : String} {A : Nat → Prop} (hl : (Cond.laysStatic C n d).before args s = true) (hini : (Cond.initialized C).before args s = true) (h : (Cond.isRef (.static C n d)).before args s = true) (hA : ∀ a : Nat, a < s.heap.size → ¬ A a) : vx_Zq C n d A s s.heap := by
  refine ⟨va_Zqof hl hini h hA, ?_⟩
  obtain ⟨c, k, i, f, a, cell, h1, h2, h3, h4, h5, h6, h7, h8, h9⟩ := Cond.laysStatic_spec hl
  exact ⟨c, k, i, f, a, cell, h1, h2, h3, h4, h5, h6, h7, h8, h9, hA a (Array.getElem?_eq_some_iff.mp h5).1⟩
theorem vx_isRef {C n d : String} {v : Value} {A : Nat → Prop} {s : State} {args : Array Value} (h : va_Z C n d v A s s.heap) (hv : v.isRef = true) : (Cond.isRef (.static C n d)).before args s = true := by
  obtain ⟨cf, kf, fi, f, a, cell, h1, h2, h3, h4, h5, h6, h7, -⟩ := h
  have he : (Term.static C n d).eval args s none [] s = some v := by
    simp [Term.eval, State.fieldNamed?, h1, h2, h4, h5, h6, h7]
  simp only [Cond.before, Cond.holds, Cond.value, he]
  cases v <;> simp_all [Value.isRef]
theorem vx_isRefq {C n d : String} {A : Nat → Prop} {s : State} {args : Array Value} (h : va_Zq C n d A s s.heap) : (Cond.isRef (.static C n d)).before args s = true := by
  rcases h with h | ⟨t, h⟩
  · exact vx_isRef h rfl
  · exact vx_isRef h rfl
/-- the same frame, seen from here: as if the method were called anew in this heap -/
theorem vx_rebase {T : State} (X : Stand p l e R s m args below meth c T locs cells slots) {R' : Room} (hf : R'.frames ≤ R.frames) (hl : R'.locals ≤ R.locals) (hc : cells + R'.cells ≤ R.cells) (hs : slots + R'.slots ≤ R.slots) :
    Stand p l e R' ((T.setVm s.vm).setFrames (.invoking m args :: below)) m args below meth c T [] 0 0 := by
  have htop : (T.setVm s.vm).topJava?.isSome := X.here.top
  have hF : ((T.setVm s.vm).setFrames (.invoking m args :: below)).frames = .invoking m args :: below := State.frames_setFrames _ (State.cur_lt_of_top htop)
  obtain ⟨g₀, hg0⟩ := Option.isSome_iff_exists.mp htop
  obtain ⟨r, hr⟩ := State.topJava?_eq_some.mp hg0
  have hl9 : e.platform.stackLimits (T.setVm s.vm).me = e.platform.stackLimits s.me := X.limits
  have hb9 : (T.setVm s.vm).me.stackBytes = s.me.stackBytes := X.bytes
  refine ⟨X.admits, X.cas, X.clock, hF, ?_, X.hears, X.method, X.code, X.here, X.tail, X.warmed, ?_, ?_, ?_⟩
  · have h := X.room
    have hU : ((T.setVm s.vm).setFrames (.invoking m args :: below)).localsInUse = s.localsInUse := by
      rw [State.localsInUse_invoking hF (meth := meth) (c := c) X.method X.code, State.localsInUse_invoking X.frames X.method X.code]
    simp only [State.hasRoom, Bool.and_eq_true, decide_eq_true_eq] at h ⊢
    obtain ⟨⟨⟨⟨h1, h2, h3, h4, h5, h6⟩, h7⟩, h8⟩, h9⟩ := h
    rw [X.frames, List.length_cons] at h2 h3
    have q1 := X.heapSize
    have q2 := X.used
    simp only [hF, hU, List.length_cons, State.stackLimits_setFrames, State.stackBytes_setFrames, hl9, hb9]
    refine ⟨⟨⟨⟨by omega, by omega, by omega, by omega, by omega, h6⟩, ?_⟩, ?_⟩, X.book⟩
    · show T.heap.size + R'.cells ≤ e.platform.maxCells
      omega
    · show T.slotsUsed + R'.slots ≤ e.platform.maxSlots
      omega
  · rw [State.stackLimits_setFrames]; rfl
  · rw [State.stackBytes_setFrames]; rfl
  · refine ⟨?_, Nat.le_refl _, Nat.le_refl _, ?_, ?_, fun a c9 h9 => ⟨c9, h9, rfl, rfl, fun _ _ => rfl⟩⟩
    · obtain ⟨t, ht, -⟩ := State.frames_cons hr
      show T.setVm s.vm = { ((T.setVm s.vm).setFrames (.invoking m args :: below)).setFrames (T.setVm s.vm).frames with heap := T.heap, slotsUsed := T.slotsUsed }
      rw [State.setFrames_setFrames, State.setFrames_self ht]
      rfl
    · show T.slotsUsed = T.slotsUsed + ((T.heap.toList.drop T.heap.size).map (·.slots.size)).sum
      rw [List.drop_eq_nil_of_le (Nat.le_of_eq Array.length_toList)]
      rfl
    · show ((T.heap.toList.drop T.heap.size).map (·.slots.size)).sum ≤ 0
      rw [List.drop_eq_nil_of_le (Nat.le_of_eq Array.length_toList)]
      exact Nat.le_refl _
/-- 'throw new E()': new; dup; invokespecial; athrow -/
theorem vx_throw0 {cc : ByteArray} {pc : Nat} (hexec : p.tables.exec = Jvm.exec) (hb : c.code = cc) (hl : l.stackTraces = false) {own cls : String} {names : List String} {ik ic mc ms : Nat} {A : Nat → Prop}
    (hown : s.vm.findClass own = some m.cls) (hcls : Bundle.fit cls = true) (hnames : ∀ n ∈ names, Bundle.fit n = true)
    (hk : (Cond.classLink own ik cls).before args s = true) (hini : (Cond.initialized cls).before args s = true) (hat : ∀ w ∈ vx_at0 own ic cls names, w.before args s = true)
    (hgood : ∀ w ∈ Cond.classLink own ik cls :: Cond.initialized cls :: vx_at0 own ic cls names, vx_ot w = true)
    (hU : vx_Zq Bundle.tN "UNASSIGNED_STACK" Bundle.steD A s s.heap) (hN : vx_Zq Bundle.tN "SUPPRESSED_SENTINEL" Bundle.listD A s s.heap) (hS : va_S A s.heap H locs) (hsize : ls.size = c.maxLocals)
    (d0 : decode cc pc = .ok (.new ik, 3)) (d3 : decode cc (pc + 3) = .ok (.dup, 1)) (d4 : decode cc (pc + 4) = .ok (.invokespecial ic, 3)) (d7 : decode cc (pc + 7) = .ok (.athrow, 1))
    (hout : ∀ x ∈ c.exceptionTable.toList, covers x (pc + 7) = false)
    (hRframes : names.length + 3 < R.frames) (hRlocals : (rest.map fun v => v.category).sum + (13 * (names.length + 1) + 42) ≤ R.locals) (hRcells : cells + 1 ≤ R.cells) (hRslots : slots + 6 ≤ R.slots) (hlocks : meth.locks = false)
    (hx : ∀ t : State, s.vm.Alike t.vm → H.size ≤ t.heap.size → (∀ q : Nat, q < H.size → t.heap[q]? = H[q]?) → XC cls s t)
    (hf : ∀ z ∈ locs, free z.base) (hc : cells + 1 ≤ mc) (hs : slots + 6 ≤ ms) :
    W p l e R s m args below meth c H locs cells slots (vx_MQ below Qc XC args s mc ms free) (F0 m pc ls rest) := by
  intro T hT X
  have htr : e.platform.stackTraces = false := (show e.platform.stackTraces = l.stackTraces by rw [X.admits.platform]).trans hl
  have Y := vx_rebase X (R' := { frames := R.frames, locals := R.locals, cells := 1, slots := 6 }) (Nat.le_refl _) (Nat.le_refl _) hRcells hRslots
  obtain ⟨s', hA⟩ : ∃ z, z = (T.setVm s.vm).setFrames (.invoking m args :: below) := ⟨_, rfl⟩
  rw [← hA] at Y
  have hvm : s'.vm = s.vm := by rw [hA]; rfl
  have hhp : s'.heap = H := by rw [hA]; exact hT
  have hW0 : s.WarmedH s'.vm := by rw [hvm]; exact State.WarmedH.refl s
  have hat' : ∀ w ∈ vx_at0 own ic cls names, w.before args s' = true := fun w hw => vx_ot_at hW0 hvm.symm (hgood w (List.mem_cons_of_mem _ (List.mem_cons_of_mem _ hw))) (hat w hw)
  have hk' : (Cond.classLink own ik cls).before args s' = true := vx_ot_at hW0 hvm.symm (hgood _ List.mem_cons_self) hk
  have hini' : (Cond.initialized cls).before args s' = true := vx_ot_at hW0 hvm.symm (hgood _ (List.mem_cons_of_mem _ List.mem_cons_self)) hini
  have hU' : vx_Zq Bundle.tN "UNASSIGNED_STACK" Bundle.steD A s' s'.heap := by rw [hhp]; exact vx_Zq.moved hW0.alike (hU.kept hS.2.1)
  have hN' : vx_Zq Bundle.tN "SUPPRESSED_SENTINEL" Bundle.listD A s' s'.heap := by rw [hhp]; exact vx_Zq.moved hW0.alike (hN.kept hS.2.1)
  have h : ∀ w ∈ Bundle.ownAtoms0 own ic cls names, w.before args s' = true := vx_own hat' (vx_isRefq hU'.1) (vx_isRefq hN'.1) hU'.2.word hN'.2.word
  have hown' : s'.vm.findClass own = some m.cls := by rw [hvm]; exact hown
  have hins : (Cond.instantiable cls 6).before args s' = true := h _ (by simp [Bundle.ownAtoms0])
  obtain ⟨vm₁, cX, kX, hfX, hkX, -, -, X₁, st1⟩ := Y.newCold hexec (own := own) (C := cls) (index := ik) (n := 6) hown' hk' hins hini'
    (g := F0 m pc ls rest) rfl (by rw [hb]; exact d0) (Nat.le_refl _) (Nat.le_refl _)
  generalize hT1 : (T.setVm vm₁).pushCell { cls := cX, slots := kX.instanceTypes.map defaultValue, vm := .none } = T1 at X₁ st1
  have hcat : (Value.ref T.heap.size).category = 1 := rfl
  have hcellA : T1.heap[T.heap.size]? = some (freshCell cX kX) := by rw [← hT1]; exact State.heap_pushCell_size _ _
  have d3' : decode c.code (pc + 3) = .ok (.dup, 1) := by rw [hb]; exact d3
  obtain ⟨U, hsteps, hrun, hend, hW, hsame, ce, hce, hO⟩ := X₁.ctorThrow0 hexec htr (own := own) (cls := cls) (names := names) (ic := ic) hown' hcls hnames h (fun x hx => nomatch hx) hfX hkX hcellA (by rw [hhp, hT]; exact Nat.le_refl _)
    (g := { method := m, pc := pc + 4, locals := ls, stack := .ref T.heap.size :: .ref T.heap.size :: rest, locked := none }) rfl hsize rfl rfl (rest := rest) rfl
    (by rw [hb]; exact d4) (by rw [hb]; exact d7) hout hRframes (by simp only [List.map_cons, List.sum_cons, hcat]; omega) hlocks
  obtain ⟨f1, f2⟩ := vx_frame hsame
  rw [hhp] at f1 f2
  have hWs : s.WarmedH U.vm := State.WarmedH.trans hW0 hW
  have hcl : s.vm.findClass cls = some ce.cls := by
    have h9 := hO.cls
    rw [hvm] at h9
    exact h9
  have hall : s.sameButNew ({ U with vm := s.vm } : State) locs mc ms := by
    subst hA
    obtain ⟨e1, e2⟩ := hsame
    rw [State.setFrames_setFrames] at e1
    have h2 : (T.setVm s.vm).sameButNew ({ U with vm := s.vm } : State) [] (0 + 1) (0 + 6) := ⟨e1, e2⟩
    have h3 := X.same.trans h2
    rw [List.append_nil] at h3
    exact h3.mono hc hs
  refine ⟨U, ?_, .threw T.heap.size, hrun, hend, Or.inr ⟨T.heap.size, rfl, cls, ce, locs, hx U hWs.alike f1 (fun q hq => f2 q hq (fun z hz => nomatch hz)), hce, hO.vm, hcl, hWs, hall, hf⟩⟩
  refine st1 _ ?_
  show Steps p.tables e below (T1.setTop { method := m, pc := pc + 3, locals := ls, stack := .ref T.heap.size :: rest, locked := none }) _
  jvm_step X₁.here [X₁.here.top, hexec, d3', Value.category]
  exact hsteps
/-- 'throw new E("text")': new; dup; ldc; invokespecial; athrow -/
theorem vx_throwS {cc : ByteArray} {pc : Nat} (hexec : p.tables.exec = Jvm.exec) (hb : c.code = cc) (hl : l.stackTraces = false) {own cls text : String} {names : List String} {ik is ic mc ms sa : Nat} {A : Nat → Prop}
    (hown : s.vm.findClass own = some m.cls) (hcls : Bundle.fit cls = true) (hnames : ∀ n ∈ names, Bundle.fit n = true)
    (hk : (Cond.classLink own ik cls).before args s = true) (hini : (Cond.initialized cls).before args s = true) (hstr : vk_R own is text sa s) (hat : ∀ w ∈ vx_atS own ic cls names, w.before args s = true)
    (hgood : ∀ w ∈ Cond.classLink own ik cls :: Cond.initialized cls :: vx_atS own ic cls names, vx_ot w = true)
    (hU : vx_Zq Bundle.tN "UNASSIGNED_STACK" Bundle.steD A s s.heap) (hN : vx_Zq Bundle.tN "SUPPRESSED_SENTINEL" Bundle.listD A s s.heap) (hS : va_S A s.heap H locs) (hsize : ls.size = c.maxLocals)
    (d0 : decode cc pc = .ok (.new ik, 3)) (d3 : decode cc (pc + 3) = .ok (.dup, 1)) (d4 : decode cc (pc + 4) = .ok (.ldc is, 2)) (d6 : decode cc (pc + 6) = .ok (.invokespecial ic, 3)) (d9 : decode cc (pc + 9) = .ok (.athrow, 1))
    (hout : ∀ x ∈ c.exceptionTable.toList, covers x (pc + 9) = false)
    (hRframes : names.length + 3 < R.frames) (hRlocals : (rest.map fun v => v.category).sum + (13 * (names.length + 1) + 43) ≤ R.locals) (hRcells : cells + 1 ≤ R.cells) (hRslots : slots + 6 ≤ R.slots) (hlocks : meth.locks = false)
    (hx : ∀ t : State, s.vm.Alike t.vm → H.size ≤ t.heap.size → (∀ q : Nat, q < H.size → t.heap[q]? = H[q]?) → XC cls s t)
    (hf : ∀ z ∈ locs, free z.base) (hc : cells + 1 ≤ mc) (hs : slots + 6 ≤ ms) :
    W p l e R s m args below meth c H locs cells slots (vx_MQ below Qc XC args s mc ms free) (F0 m pc ls rest) := by
  intro T hT X
  have htr : e.platform.stackTraces = false := (show e.platform.stackTraces = l.stackTraces by rw [X.admits.platform]).trans hl
  have Y := vx_rebase X (R' := { frames := R.frames, locals := R.locals, cells := 1, slots := 6 }) (Nat.le_refl _) (Nat.le_refl _) hRcells hRslots
  obtain ⟨s', hA⟩ : ∃ z, z = (T.setVm s.vm).setFrames (.invoking m args :: below) := ⟨_, rfl⟩
  rw [← hA] at Y
  have hvm : s'.vm = s.vm := by rw [hA]; rfl
  have hhp : s'.heap = H := by rw [hA]; exact hT
  have hW0 : s.WarmedH s'.vm := by rw [hvm]; exact State.WarmedH.refl s
  have hat' : ∀ w ∈ vx_atS own ic cls names, w.before args s' = true := fun w hw => vx_ot_at hW0 hvm.symm (hgood w (List.mem_cons_of_mem _ (List.mem_cons_of_mem _ hw))) (hat w hw)
  have hk' : (Cond.classLink own ik cls).before args s' = true := vx_ot_at hW0 hvm.symm (hgood _ List.mem_cons_self) hk
  have hini' : (Cond.initialized cls).before args s' = true := vx_ot_at hW0 hvm.symm (hgood _ (List.mem_cons_of_mem _ List.mem_cons_self)) hini
  have hU' : vx_Zq Bundle.tN "UNASSIGNED_STACK" Bundle.steD A s' s'.heap := by rw [hhp]; exact vx_Zq.moved hW0.alike (hU.kept hS.2.1)
  have hN' : vx_Zq Bundle.tN "SUPPRESSED_SENTINEL" Bundle.listD A s' s'.heap := by rw [hhp]; exact vx_Zq.moved hW0.alike (hN.kept hS.2.1)
  have h : ∀ w ∈ Bundle.ownAtoms own ic cls names, w.before args s' = true := vx_own hat' (vx_isRefq hU'.1) (vx_isRefq hN'.1) hU'.2.word hN'.2.word
  have hown' : s'.vm.findClass own = some m.cls := by rw [hvm]; exact hown
  have hins : (Cond.instantiable cls 6).before args s' = true := h _ (by simp [Bundle.ownAtoms])
  obtain ⟨vm₁, cX, kX, hfX, hkX, -, -, X₁, st1⟩ := Y.newCold hexec (own := own) (C := cls) (index := ik) (n := 6) hown' hk' hins hini'
    (g := F0 m pc ls rest) rfl (by rw [hb]; exact d0) (Nat.le_refl _) (Nat.le_refl _)
  generalize hT1 : (T.setVm vm₁).pushCell { cls := cX, slots := kX.instanceTypes.map defaultValue, vm := .none } = T1 at X₁ st1
  have hcat : (Value.ref T.heap.size).category = 1 := rfl
  have hcellA : T1.heap[T.heap.size]? = some (freshCell cX kX) := by rw [← hT1]; exact State.heap_pushCell_size _ _
  have d3' : decode c.code (pc + 3) = .ok (.dup, 1) := by rw [hb]; exact d3
  have d4' : decode c.code (pc + 4) = .ok (.ldc is, 2) := by rw [hb]; exact d4
  have hstr' : vk_R own is text sa s' := vk_R.warm hW0 hstr
  obtain ⟨U, hsteps, hrun, hend, hW, hsame, ce, hce, hO⟩ := X₁.ctorThrowS hexec htr (own := own) (cls := cls) (names := names) (ic := ic) hown' hcls hnames h (fun x hx => nomatch hx) hfX hkX hcellA (by rw [hhp, hT]; exact Nat.le_refl _) (msg := .ref sa) rfl
    (g := { method := m, pc := pc + 6, locals := ls, stack := .ref sa :: .ref T.heap.size :: .ref T.heap.size :: rest, locked := none }) rfl hsize rfl rfl (rest := rest) rfl
    (by rw [hb]; exact d6) (by rw [hb]; exact d9) hout hRframes (by simp only [List.map_cons, List.sum_cons, hcat]; omega) hlocks
  obtain ⟨f1, f2⟩ := vx_frame hsame
  rw [hhp] at f1 f2
  have hWs : s.WarmedH U.vm := State.WarmedH.trans hW0 hW
  have hcl : s.vm.findClass cls = some ce.cls := by
    have h9 := hO.cls
    rw [hvm] at h9
    exact h9
  have hall : s.sameButNew ({ U with vm := s.vm } : State) locs mc ms := by
    subst hA
    obtain ⟨e1, e2⟩ := hsame
    rw [State.setFrames_setFrames] at e1
    have h2 : (T.setVm s.vm).sameButNew ({ U with vm := s.vm } : State) [] (0 + 1) (0 + 6) := ⟨e1, e2⟩
    have h3 := X.same.trans h2
    rw [List.append_nil] at h3
    exact h3.mono hc hs
  refine ⟨U, ?_, .threw T.heap.size, hrun, hend, Or.inr ⟨T.heap.size, rfl, cls, ce, locs, hx U hWs.alike f1 (fun q hq => f2 q hq (fun z hz => nomatch hz)), hce, hO.vm, hcl, hWs, hall, hf⟩⟩
  refine st1 _ ?_
  show Steps p.tables e below (T1.setTop { method := m, pc := pc + 3, locals := ls, stack := .ref T.heap.size :: rest, locked := none }) _
  jvm_step X₁.here [X₁.here.top, hexec, d3', Value.category]
  exact X₁.ldcString hexec (own := own) (text := text) (index := is) (a := sa) hown' hstr'.1 hstr'.2
    (g := { method := m, pc := pc + 4, locals := ls, stack := .ref T.heap.size :: .ref T.heap.size :: rest, locked := none }) rfl d4' _ hsteps
/-- 'throw new E("text")', the text by a wide index -/
theorem vx_throwSW {cc : ByteArray} {pc : Nat} (hexec : p.tables.exec = Jvm.exec) (hb : c.code = cc) (hl : l.stackTraces = false) {own cls text : String} {names : List String} {ik is ic mc ms sa : Nat} {A : Nat → Prop}
    (hown : s.vm.findClass own = some m.cls) (hcls : Bundle.fit cls = true) (hnames : ∀ n ∈ names, Bundle.fit n = true)
    (hk : (Cond.classLink own ik cls).before args s = true) (hini : (Cond.initialized cls).before args s = true) (hstr : vk_R own is text sa s) (hat : ∀ w ∈ vx_atS own ic cls names, w.before args s = true)
    (hgood : ∀ w ∈ Cond.classLink own ik cls :: Cond.initialized cls :: vx_atS own ic cls names, vx_ot w = true)
    (hU : vx_Zq Bundle.tN "UNASSIGNED_STACK" Bundle.steD A s s.heap) (hN : vx_Zq Bundle.tN "SUPPRESSED_SENTINEL" Bundle.listD A s s.heap) (hS : va_S A s.heap H locs) (hsize : ls.size = c.maxLocals)
    (d0 : decode cc pc = .ok (.new ik, 3)) (d3 : decode cc (pc + 3) = .ok (.dup, 1)) (d4 : decode cc (pc + 4) = .ok (.ldc_w is, 3)) (d7 : decode cc (pc + 7) = .ok (.invokespecial ic, 3)) (d10 : decode cc (pc + 10) = .ok (.athrow, 1))
    (hout : ∀ x ∈ c.exceptionTable.toList, covers x (pc + 10) = false)
    (hRframes : names.length + 3 < R.frames) (hRlocals : (rest.map fun v => v.category).sum + (13 * (names.length + 1) + 43) ≤ R.locals) (hRcells : cells + 1 ≤ R.cells) (hRslots : slots + 6 ≤ R.slots) (hlocks : meth.locks = false)
    (hx : ∀ t : State, s.vm.Alike t.vm → H.size ≤ t.heap.size → (∀ q : Nat, q < H.size → t.heap[q]? = H[q]?) → XC cls s t)
    (hf : ∀ z ∈ locs, free z.base) (hc : cells + 1 ≤ mc) (hs : slots + 6 ≤ ms) :
    W p l e R s m args below meth c H locs cells slots (vx_MQ below Qc XC args s mc ms free) (F0 m pc ls rest) := by
  intro T hT X
  have htr : e.platform.stackTraces = false := (show e.platform.stackTraces = l.stackTraces by rw [X.admits.platform]).trans hl
  have Y := vx_rebase X (R' := { frames := R.frames, locals := R.locals, cells := 1, slots := 6 }) (Nat.le_refl _) (Nat.le_refl _) hRcells hRslots
  obtain ⟨s', hA⟩ : ∃ z, z = (T.setVm s.vm).setFrames (.invoking m args :: below) := ⟨_, rfl⟩
  rw [← hA] at Y
  have hvm : s'.vm = s.vm := by rw [hA]; rfl
  have hhp : s'.heap = H := by rw [hA]; exact hT
  have hW0 : s.WarmedH s'.vm := by rw [hvm]; exact State.WarmedH.refl s
  have hat' : ∀ w ∈ vx_atS own ic cls names, w.before args s' = true := fun w hw => vx_ot_at hW0 hvm.symm (hgood w (List.mem_cons_of_mem _ (List.mem_cons_of_mem _ hw))) (hat w hw)
  have hk' : (Cond.classLink own ik cls).before args s' = true := vx_ot_at hW0 hvm.symm (hgood _ List.mem_cons_self) hk
  have hini' : (Cond.initialized cls).before args s' = true := vx_ot_at hW0 hvm.symm (hgood _ (List.mem_cons_of_mem _ List.mem_cons_self)) hini
  have hU' : vx_Zq Bundle.tN "UNASSIGNED_STACK" Bundle.steD A s' s'.heap := by rw [hhp]; exact vx_Zq.moved hW0.alike (hU.kept hS.2.1)
  have hN' : vx_Zq Bundle.tN "SUPPRESSED_SENTINEL" Bundle.listD A s' s'.heap := by rw [hhp]; exact vx_Zq.moved hW0.alike (hN.kept hS.2.1)
  have h : ∀ w ∈ Bundle.ownAtoms own ic cls names, w.before args s' = true := vx_own hat' (vx_isRefq hU'.1) (vx_isRefq hN'.1) hU'.2.word hN'.2.word
  have hown' : s'.vm.findClass own = some m.cls := by rw [hvm]; exact hown
  have hins : (Cond.instantiable cls 6).before args s' = true := h _ (by simp [Bundle.ownAtoms])
  obtain ⟨vm₁, cX, kX, hfX, hkX, -, -, X₁, st1⟩ := Y.newCold hexec (own := own) (C := cls) (index := ik) (n := 6) hown' hk' hins hini'
    (g := F0 m pc ls rest) rfl (by rw [hb]; exact d0) (Nat.le_refl _) (Nat.le_refl _)
  generalize hT1 : (T.setVm vm₁).pushCell { cls := cX, slots := kX.instanceTypes.map defaultValue, vm := .none } = T1 at X₁ st1
  have hcat : (Value.ref T.heap.size).category = 1 := rfl
  have hcellA : T1.heap[T.heap.size]? = some (freshCell cX kX) := by rw [← hT1]; exact State.heap_pushCell_size _ _
  have d3' : decode c.code (pc + 3) = .ok (.dup, 1) := by rw [hb]; exact d3
  have d4' : decode c.code (pc + 4) = .ok (.ldc_w is, 3) := by rw [hb]; exact d4
  have hstr' : vk_R own is text sa s' := vk_R.warm hW0 hstr
  obtain ⟨U, hsteps, hrun, hend, hW, hsame, ce, hce, hO⟩ := X₁.ctorThrowS hexec htr (own := own) (cls := cls) (names := names) (ic := ic) hown' hcls hnames h (fun x hx => nomatch hx) hfX hkX hcellA (by rw [hhp, hT]; exact Nat.le_refl _) (msg := .ref sa) rfl
    (g := { method := m, pc := pc + 7, locals := ls, stack := .ref sa :: .ref T.heap.size :: .ref T.heap.size :: rest, locked := none }) rfl hsize rfl rfl (rest := rest) rfl
    (by rw [hb]; exact d7) (by rw [hb]; exact d10) hout hRframes (by simp only [List.map_cons, List.sum_cons, hcat]; omega) hlocks
  obtain ⟨f1, f2⟩ := vx_frame hsame
  rw [hhp] at f1 f2
  have hWs : s.WarmedH U.vm := State.WarmedH.trans hW0 hW
  have hcl : s.vm.findClass cls = some ce.cls := by
    have h9 := hO.cls
    rw [hvm] at h9
    exact h9
  have hall : s.sameButNew ({ U with vm := s.vm } : State) locs mc ms := by
    subst hA
    obtain ⟨e1, e2⟩ := hsame
    rw [State.setFrames_setFrames] at e1
    have h2 : (T.setVm s.vm).sameButNew ({ U with vm := s.vm } : State) [] (0 + 1) (0 + 6) := ⟨e1, e2⟩
    have h3 := X.same.trans h2
    rw [List.append_nil] at h3
    exact h3.mono hc hs
  refine ⟨U, ?_, .threw T.heap.size, hrun, hend, Or.inr ⟨T.heap.size, rfl, cls, ce, locs, hx U hWs.alike f1 (fun q hq => f2 q hq (fun z hz => nomatch hz)), hce, hO.vm, hcl, hWs, hall, hf⟩⟩
  refine st1 _ ?_
  show Steps p.tables e below (T1.setTop { method := m, pc := pc + 3, locals := ls, stack := .ref T.heap.size :: rest, locked := none }) _
  jvm_step X₁.here [X₁.here.top, hexec, d3', Value.category]
  exact X₁.ldcStringW hexec (own := own) (text := text) (index := is) (a := sa) hown' hstr'.1 hstr'.2
    (g := { method := m, pc := pc + 4, locals := ls, stack := .ref T.heap.size :: .ref T.heap.size :: rest, locked := none }) rfl d4' _ hsteps
end Ends
section Bodies
variable {l : Launch}
theorem vx_ofW {y : MethodName} {ws ws' : List Cond} {rm : Room} {Pc : Array Value → State → Prop} {Qc : Array Value → State → Outcome → State → Prop} {XC : String → State → State → Prop} {mc ms : Nat} {free : Addr → Prop} {cc : ByteArray} {maxL : Nat} {ret : Option FieldType}
    (hy : plainName y.cls = true) (hw : ws = Cond.code y cc maxL ret :: ws')
    (body : ∀ p e s m args below meth c s₁, BodyLoose p l y (headSpec ws rm) cc maxL ret e s m args below meth c s₁ → c.maxLocals = maxL → (∀ x ∈ c.exceptionTable.toList, False) → Pc args s →
      W p l e (headSpec ws rm).room s m args below meth c s.heap [] 0 0 (vx_MQ below Qc XC args s mc ms free) (entryFrame m args maxL)) : vx_Met l y ws rm Pc Qc XC mc ms free := by
  refine MetFree.of_bodyS (code := cc) (maxLocals := maxL) (ret := ret) hy ?_ ?_
  · intro args s m h hn
    obtain ⟨meth, c, h1, h2, h3, h4, h5, h6, -, -⟩ := Cond.code_spec hn (atoms_spec (ws := ws) h _ (by rw [hw]; exact List.mem_cons_self))
    exact ⟨meth, c, h1, h2, h3, h4, h5, h6⟩
  · intro p e s m args below meth c s₁ B hml hP _
    have hh0 : s₁.heap = s.heap := by rw [B.state]; rfl
    have ht : ∀ x ∈ c.exceptionTable.toList, False := by
      obtain ⟨meth9, c9, h1, h2, -, -, -, -, h7, -⟩ := Cond.code_spec B.named (atoms_spec (ws := ws) B.pre _ (by rw [hw]; exact List.mem_cons_self))
      cases Option.some.inj (h1.symm.trans B.method)
      cases Option.some.inj (h2.symm.trans (Stand.of_body B).code)
      intro x hx
      rw [Array.isEmpty_iff.mp h7] at hx
      cases hx
    obtain ⟨t, a1, o, b1, b2, b3⟩ := body p e s m args below meth c s₁ B hml ht hP s₁ hh0 (Stand.of_body B)
    exact ⟨t, o, a1, b1, b2, b3⟩
/-- the table of a body with handlers -/
theorem vx_table {p : Program} {x y : MethodName} {S : Spec} {cc bytes : ByteArray} {maxL maxL' : Nat} {ret ret' : Option FieldType} {e : Env} {s s₁ : State} {m : MethodId} {args : Array Value} {below : List Frame} {meth : Method} {c : Code} {hh : List (Nat × Nat × Nat × Nat)}
    (B : BodyLoose p l y S cc maxL ret e s m args below meth c s₁) (h : (Cond.codeWith y bytes maxL' ret' hh).before args s = true) : c.exceptionTable.toList = tableOf hh := by
  obtain ⟨m9, meth9, c9, hn9, h1, h2, -, -, h6, -⟩ := Cond.codeWith_spec h
  cases Option.some.inj (hn9.symm.trans B.named)
  cases Option.some.inj (h1.symm.trans B.method)
  cases Option.some.inj (h2.symm.trans (Stand.of_body B).code)
  rw [← h6, table_eq]
end Bodies
end VXA
/-! ===== END ===== -/
/-! ===== BEGIN a static call of a method with an exception table ===== -/
section VXS
variable {p : Program} {l : Launch} {e : Env} {R : Room} {s : State} {m : MethodId} {args : Array Value} {below : List Frame} {meth : Method} {c : Code} {T : State} {H : Heap} {locs : List Loc} {cells slots : Nat}
abbrev vx_CSW (R : Room) (s : State) (args : Array Value) (own : String) (index : Nat) (y : MethodName) (bytes : ByteArray) (maxL : Nat) (ret : Option FieldType) (hh : List (Nat × Nat × Nat × Nat)) (ws : List Cond) (rm : Room) (mc ms n : Nat) : Prop :=
  (rm.cells = mc ∧ rm.slots = ms ∧ rm.frames + 1 ≤ R.frames ∧ 8 + (maxL + 11) + rm.locals ≤ R.locals ∧ (∀ w ∈ ws, ∀ (a' : Array Value) (U : State), s.WarmedH U.vm → w.before a' U = true) ∧ Cond.codeWith y bytes maxL ret hh ∈ ws) ∧
  (Cond.codeWith y bytes maxL ret hh).before args s = true ∧ (Cond.initialized y.cls).before args s = true ∧ (y.cls ≠ "java/lang/invoke/MethodHandle" ∧ y.cls ≠ "java/lang/invoke/VarHandle") ∧
  (∀ sig, parseMethodDescriptor y.desc = some sig → n = sig.parameters.length) ∧ (Cond.methodLink own index y).before args s = true ∧ (Cond.static y).before args s = true
theorem vx_cwSW {own : String} {index maxL mc ms : Nat} {y : MethodName} {bytes : ByteArray} {ret : Option FieldType} {hh : List (Nat × Nat × Nat × Nat)} {Ts ws ws' : List Cond} {rm : Room} (n : Nat) (ht : ∀ w ∈ Ts, w.before args s = true) (hT : GoodIn Ts (va_wsS own index y ws)) (hw : ws = Cond.codeWith y bytes maxL ret hh :: ws') (hrc : rm.cells = mc) (hrs : rm.slots = ms)
    (hd : y.cls ≠ "java/lang/invoke/MethodHandle" ∧ y.cls ≠ "java/lang/invoke/VarHandle" ∧ (parseMethodDescriptor y.desc).map (fun d => d.parameters.length) = some n) (hR : rm.frames + 1 ≤ R.frames ∧ 8 + (maxL + 11) + rm.locals ≤ R.locals) :
    vx_CSW R s args own index y bytes maxL ret hh ws rm mc ms n := by
  have ok : ∀ w ∈ va_wsS own index y ws, w.before args s = true := fun w h => ht w (hT w h).1
  have hG : GoodIn Ts ws := fun w h => hT w (by unfold va_wsS; exact List.mem_append_right _ h)
  have hc : Cond.codeWith y bytes maxL ret hh ∈ ws := by rw [hw]; exact List.mem_cons_self
  refine ⟨⟨hrc, hrs, hR.1, hR.2, pay_in ht hG, hc⟩, ht _ (hG _ hc).1, ok _ (by simp [va_wsS]), ⟨hd.1, hd.2.1⟩, fun sig h => ?_, ok _ (by simp [va_wsS]), ok _ (by simp [va_wsS])⟩
  have h2 := hd.2.2
  rw [h] at h2
  exact (Option.some.inj h2).symm
theorem vx_callSW (X : Stand p l e R s m args below meth c T locs cells slots) (hexec : p.tables.exec = Jvm.exec) {own : String} {index : Nat} {y : MethodName} {bytes : ByteArray} {maxL : Nat} {ret : Option FieldType} {hh : List (Nat × Nat × Nat × Nat)}
    (hown : s.vm.findClass own = some m.cls) (hlink : (Cond.methodLink own index y).before args s = true) (hstat : (Cond.static y).before args s = true) (hinit : (Cond.initialized y.cls).before args s = true)
    (hcode : (Cond.codeWith y bytes maxL ret hh).before args s = true) (hy : y.cls ≠ "java/lang/invoke/MethodHandle" ∧ y.cls ≠ "java/lang/invoke/VarHandle")
    {W9 : Nat} {Pre : Pt → Array Value → Prop} {Post : Pt → Array Value → Option Value → Pt → Prop} (hK : Back l R p e below s args y 3 W9 Pre Post)
    {g : JFrame} (hg : g.method = m) (hsize : g.locals.size = c.maxLocals) {argsL rest : List Value} (hlen : ∀ sig, parseMethodDescriptor y.desc = some sig → argsL.length = sig.parameters.length)
    (hstack : g.stack = argsL.reverse ++ rest) (hW : 2 * g.monitorRoom + (rest.map fun v => v.category).sum ≤ W9) (hdg : decode c.code g.pc = .ok (.invokestatic index, 3))
    (hpre : ∀ vm₁, s.WarmedH vm₁ → Pre ⟨T.setVm vm₁, locs, cells, slots⟩ argsL.toArray) :
    ∃ (v : Option Value) (vm₁ : Vm) (B : Pt), s.WarmedH vm₁ ∧ Stand p l e R s m args below meth c B.U B.locs B.cells B.slots ∧ Post ⟨T.setVm vm₁, locs, cells, slots⟩ argsL.toArray v B ∧
      ∀ target, Steps p.tables e below (B.U.setTop { g with pc := g.pc + 3, stack := v.toList ++ rest }) target → Steps p.tables e below (T.setTop g) target := by
  obtain ⟨mk, methM, cM, hnamed, hmethM, -, -, -, -, -, -, hsigM⟩ := Cond.codeWith_spec hcode
  have hstatic : methM.isStatic = true := Cond.static_spec hnamed hmethM hstat
  obtain ⟨kP, hkP, -⟩ := className_of_methodNamed hnamed
  have hinitP : kP.init = .initialized := Cond.initialized_spec (findClass_of_methodNamed hnamed) hkP hinit
  obtain ⟨vm₁, X₁, hstep₁⟩ := X.invokestatic hexec hown hlink hnamed hmethM hstatic hkP hinitP hy (g := g) hg (argsL := argsL) (rest := rest) (hlen _ hsigM) hstack hdg
  obtain ⟨v, B, X', hpost, hsteps⟩ := hK m meth c ⟨T.setVm vm₁, locs, cells, slots⟩ { g with stack := rest } (.invokestatic index) mk argsL.toArray X₁ hg hsize hdg hW (X₁.named hnamed) (hpre vm₁ X₁.warmed)
  exact ⟨v, vm₁, B, X₁.warmed, X', hpost, fun target h => hstep₁ _ fun acts => by rw [doInvoke_state]; exact hsteps.trans h⟩
theorem vx_runSW {y : MethodName} {bytes cc : ByteArray} {maxL nL mc ms n index : Nat} {ret : Option FieldType} {hh : List (Nat × Nat × Nat × Nat)} {ws : List Cond} {rm : Room} {Pc : Array Value → State → Prop} {Qc : Array Value → State → Outcome → State → Prop} {free : Addr → Prop} {Ts : List Cond} {own : String} {As rest : List Value} {g : JFrame}
    (S : CallFix p m c cc nL s args Ts own) (hM : Met l y ws rm Pc Qc mc ms free) (cw : vx_CSW R s args own index y bytes maxL ret hh ws rm mc ms n) (hp : PreS s H Pc As)
    (hg : g.method = m) (hn : As.length = n) (hsize : g.locals.size = nL) (hstack : g.stack = As.reverse ++ rest) (hW : 2 * g.monitorRoom + (rest.map fun v => v.category).sum ≤ 8) (hdg : decode cc g.pc = .ok (.invokestatic index, 3)) (hf : cells + mc ≤ R.cells ∧ slots + ms ≤ R.slots) :
    va_Run p l e R s m args below meth c H locs cells slots mc ms g rest (Qc As.toArray) (free) := by
  obtain ⟨⟨hrc, hrs, hfr, hlo, hws, hcw⟩, hcode, hini, hy, hlen, hl, hstt⟩ := cw
  have hK : Back l R p e below s args y 3 8 (PreOf R mc ms Pc) (PostOf Qc mc ms free) := va_backW (hh := hh) (bytes := bytes) (maxL := maxL) (ret := ret) hM hp.1 hrc hrs hfr hlo hws hcw (fun a' U hW => word_at hW (Or.inl (by first | rfl | simp [Cond.onTables, Cond.keeps, Cond.steady])) hini)
  obtain ⟨hx, hb, hml, ho, -⟩ := S
  intro T hT X
  obtain ⟨v, vm₁, ⟨U', l2, c2, s2⟩, hW₁, X', ⟨g', mk, t, L, e1, e2, hq, h1, hL, h2, h3⟩, st⟩ := vx_callSW X hx (hh := hh) (bytes := bytes) (maxL := maxL) (ret := ret) ho hl hstt hini hcode hy hK hg (hsize.trans hml.symm) (argsL := As) (rest := rest) (fun sig h => hn.trans (hlen sig h)) hstack hW (by rw [hb]; exact hdg)
    (fun vm₁ hW₁ => ⟨hf.1, hf.2, hp.2 (T.setVm vm₁) hT hW₁⟩)
  dsimp only [Pt.U, Pt.locs, Pt.cells, Pt.slots] at X' e1 e2 h1 h2 h3 st
  subst h1; subst h2; subst h3
  exact ⟨v, (T.setVm vm₁).calling g' mk As.toArray, t, U', L, hT, X', hL, e1, e2, hq, st⟩
/-- not caught here, past rows that name other classes: it goes on to the caller -/
theorem vx_outP {p : Program} {l : Launch} {e : Env} {R : Room} {s : State} {m : MethodId} {args : Array Value} {below : List Frame} {meth : Method} {c : Code} {H : Heap} {locs : List Loc} {cells slots : Nat} {free : Addr → Prop} {ls : Array Slot} {rest : List Value} {Qc : Array Value → State → Outcome → State → Prop} {XC : String → State → State → Prop}
    {pc : Nat} {own E : String} {ce : Cell} {q : Addr} {mc ms : Nat} (hown : s.vm.findClass own = some m.cls) (hlocks : meth.locks = false)
    (hpass : ∀ z ∈ c.exceptionTable.toList, covers z pc = false ∨ (z.catchType ≠ 0 ∧ ∃ nm : String, (Cond.classLink own z.catchType nm).before args s = true ∧ va_Nc E nm s)) (hcell : H[q]? = some ce) (hv : ce.vm = .none) (hcl : s.vm.findClass E = some ce.cls)
    (hx : ∀ t : State, t.heap = H → s.vm.Alike t.vm → XC E s t) (hf : ∀ z ∈ locs, free z.base) (hc : cells ≤ mc) (hs : slots ≤ ms) :
    vx_W p l e R s m args below meth c H locs cells slots (vx_MQ below Qc XC args s mc ms free) (F0 m pc ls rest) q := by
  intro T hT X
  have hpl : e.platform.magicAccessors = ({} : Platform).magicAccessors := by rw [X.admits.platform]
  obtain ⟨vm', hW', X', st⟩ := X.outThrough hlocks q (g := F0 m pc ls rest) rfl rfl rfl (cell := ce) (by rw [hT]; exact hcell) (by rw [hv]; rfl)
    (by obtain ⟨k9, h9, -⟩ := Vm.findClass_spec hcl; exact ⟨k9, h9⟩) (fun z hz => by
      rcases hpass z hz with h | ⟨hz0, nm, hl1, hn1⟩
      · exact Or.inl h
      · obtain ⟨c6, hc6, hcl6⟩ := Cond.classLink_spec hown hl1 e.platform hpl
        obtain ⟨a8, b8, h1, h2, h3⟩ := hn1
        cases Option.some.inj (h1.symm.trans hcl)
        cases Option.some.inj (h2.symm.trans hc6)
        exact Or.inr ⟨hz0, _, hcl6, h3⟩)
  obtain ⟨g₀, hfr⟩ := X'.frames_eq
  have hcell9 : ((T.setVm vm').setFrames (.throwing q :: below)).heap[q]? = some ce := by
    show T.heap[q]? = some ce
    rw [hT]; exact hcell
  have hend : Ended ((T.setVm vm').setFrames (.throwing q :: below)) below (.threw q) := State.frames_setFrames _ (State.cur_lt_of_frames hfr)
  refine ⟨(T.setVm vm').setFrames (.throwing q :: below), ?_, .threw q, X'.here.running, hend, Or.inr ⟨q, rfl, E, ce, locs, hx _ hT (X'.ends _).1.alike, hcell9, hv, hcl, (X'.ends _).1, (X'.ends _).2.mono hc hs, hf⟩⟩
  rw [X.pushThrowing_eq]
  exact st
/-- a thing of a world lies in the heap -/
theorem vx_lt {D : va_G} {cl : List vw_C} {ws : va_W} {H1 : Heap} (h : va_P D cl ws H1) {k : Nat} {q : Nat × va_E} (hk : ws[k]? = some q) : q.1 < H1.size := (h k q hk).lt
end VXS
/-! ===== END ===== -/
/-! ===== BEGIN methods with a table of their own: called by a name, returning or throwing ===== -/
section VXH
/-! vx_backW, vx_callVX, vx_callSX, vx_callVW, vx_runVW, vx_runVX, vx_runSX, vx_ofWH follow the same proofs as their sisters above (Free/Laws.lean, Shelf42/LK1.lean); vx_outP calls Shelf42/NT130.lean (outThrough). -/
section
variable {l : Launch} {R : Room} {p : Program} {e : Env} {below : List Frame} {s : State} {sargs : Array Value} {y : MethodName} {len W9 : Nat}
theorem vx_backW {ws : List Cond} {rm : Room} {Pc : Array Value → State → Prop} {Qc : Array Value → State → Outcome → State → Prop} {XC : String → State → State → Prop} {mc ms : Nat} {free : Addr → Prop} {bytes : ByteArray} {maxL : Nat} {ret : Option FieldType} {hh : List (Nat × Nat × Nat × Nat)}
    (hM : vx_Met l y ws rm Pc Qc XC mc ms free) (hblind : FrameBlind Pc) (hrc : rm.cells = mc) (hrs : rm.slots = ms)
    (hframes : rm.frames + 1 ≤ R.frames) (hlocals : W9 + (maxL + 11) + rm.locals ≤ R.locals)
    (hws : ∀ w ∈ ws, ∀ a' U, s.WarmedH U.vm → w.before a' U = true) (hcode : Cond.codeWith y bytes maxL ret hh ∈ ws) (hinit : ∀ a' U, s.WarmedH U.vm → (Cond.initialized y.cls).before a' U = true) :
    vx_Back l R p e below s sargs y len W9 (PreOf R mc ms Pc) (PostOf Qc mc ms free) (vx_Post XC mc ms free) := by
  intro m meth c A g ig mk a X hg hsize hdg hW hn hp
  have h1 : (headSpec ws rm).pre.before a A.U = true := atoms_intro fun w hw => hws w hw _ _ X.warmed
  have h2 : (Cond.codeWith y bytes maxL ret hh).before a A.U = true := hws _ hcode _ _ X.warmed
  have h3 : (Cond.initialized y.cls).before a A.U = true := hinit _ _ X.warmed
  have h4 : A.cells + (headSpec ws rm).room.cells ≤ R.cells := by rw [show (headSpec ws rm).room.cells = mc from hrc]; exact hp.1
  have h5 : A.slots + (headSpec ws rm).room.slots ≤ R.slots := by rw [show (headSpec ws rm).room.slots = ms from hrs]; exact hp.2.1
  have hPc : Pc a (A.U.calling g mk a) := hblind _ _ _ _ hp.2.2
  obtain ⟨U, Ls, c0, s0⟩ := A
  dsimp only [Pt.U, Pt.locs, Pt.cells, Pt.slots] at h1 h2 h3 h4 h5 X hn hPc ⊢
  obtain ⟨m9, methY, cY, hn9, hmY, hcY, -, hlY, -⟩ := Cond.codeWith_spec h2
  cases Option.some.inj (hn9.symm.trans hn)
  obtain ⟨kY, hkY, -⟩ := className_of_methodNamed hn
  have hinitY : kY.init = .initialized := Cond.initialized_spec (findClass_of_methodNamed hn) hkY h3
  have h : At U g.method c below := by rw [hg]; exact X.here
  have hlocals9 : W9 + (maxL + 11) + (headSpec ws rm).room.locals ≤ R.locals := hlocals
  have happ : (headSpec ws rm).appliesLoose y e.platform (U.calling g mk a) = true :=
    Spec.appliesLoose_calling (g := g) h hdg hn hkY hinitY
      (X.room_calling (g := g) (R' := (headSpec ws rm).room) hsize hmY hcY hframes (by rw [hlY]; omega) h4 h5) h1
  obtain ⟨mid, hmid⟩ := h.above
  have hfr : (U.setTop g).frames = (.java g :: mid) ++ below := by rw [State.frames_setTop' g h.top, hmid]; rfl
  obtain ⟨o, s₂, hsteps, -, hend, hq⟩ := Steps.callFree hM p X.admits X.cas X.clock (acts := []) hfr happ hPc trivial
  have hq' : vx_Q Qc XC mc ms free a (U.calling g mk a) o s₂ := hq
  rw [State.frames_setTop' g h.top] at hend
  obtain ⟨g₀, hg0⟩ := Option.isSome_iff_exists.mp h.top
  obtain ⟨r, hr⟩ := State.topJava?_eq_some.mp hg0
  have hr' : (({ U with heap := s₂.heap, slotsUsed := s₂.slotsUsed } : State).setVm s₂.vm).frames = .java g₀ :: r := hr
  rcases hq' with ⟨hqc, L, hfe, hL⟩ | ⟨q, rfl, E, ce, L, hx, hce, hcv, hcl, hW₂, hsm, hL⟩
  · obtain ⟨⟨v, rfl⟩, hW₂, e2, q2, q3, q4, q5, q6⟩ := id hfe
    have e3 : s₂ = ({ (U.calling g mk a).setFrames s₂.frames with heap := s₂.heap, slotsUsed := s₂.slotsUsed } : State).setVm s₂.vm := by
      have : s₂ = ({ s₂ with vm := (U.calling g mk a).vm } : State).setVm s₂.vm := rfl
      rw [e2] at this
      exact this
    obtain ⟨c₂, i₂, len₂, hc₂, hd₂, hf₂⟩ := hend
    have hW' : U.WarmedH s₂.vm := hW₂
    have hcc : c₂ = c := by
      have h1 : s₂.code? g.method = U.code? g.method := by
        rw [State.code?_eq, State.code?_eq, hW'.alike.method?]
      exact Option.some.inj (hc₂.symm.trans (h1.trans h.code))
    subst hcc
    have hlen : len₂ = len := by rw [hdg] at hd₂; cases hd₂; rfl
    subst hlen
    have hs₂ : s₂ = (({ U with heap := s₂.heap, slotsUsed := s₂.slotsUsed } : State).setVm s₂.vm).setTop { g with pc := g.pc + len₂, stack := v.toList ++ g.stack } := by
      refine e3.trans ?_
      rw [hf₂, State.calling_eq h.top, State.setFrames_setFrames, State.setTop_of_frames _ hr', hr]
      rfl
    have hsame : U.sameButNew ({ U with heap := s₂.heap, slotsUsed := s₂.slotsUsed } : State) L mc ms := by
      refine ⟨?_, q2, q3, q4, q5, q6⟩
      obtain ⟨t, ht, -⟩ := State.frames_cons hr
      show ({ U with heap := s₂.heap, slotsUsed := s₂.slotsUsed } : State) = { U.setFrames U.frames with heap := s₂.heap, slotsUsed := s₂.slotsUsed }
      rw [State.setFrames_self ht]
    subst hg
    refine Or.inl ⟨v, ⟨(({ U with heap := s₂.heap, slotsUsed := s₂.slotsUsed } : State).setVm s₂.vm), Ls ++ L, c0 + mc, s0 + ms⟩,
      ⟨X.admits, X.cas, X.clock, X.frames, X.room, X.hears, X.method, X.code, (X.here.setHeapUsed s₂.heap s₂.slotsUsed).setVm hW'.alike, X.tail, State.WarmedH.trans X.warmed hW', X.limits, X.bytes, X.same.trans (hsame.setVm s.vm)⟩,
      ⟨g, mk, s₂, L, rfl, rfl, hqc, rfl, hL, rfl, rfl⟩, ?_⟩
    show Steps p.tables e below _ ((({ U with heap := s₂.heap, slotsUsed := s₂.slotsUsed } : State).setVm s₂.vm).setTop { g with pc := g.pc + len₂, stack := v.toList ++ g.stack })
    rw [← hs₂]
    exact hsteps
  · obtain ⟨e2, q2, q3, q4, q5, q6⟩ := id hsm
    have e3 : s₂ = ({ (U.calling g mk a).setFrames s₂.frames with heap := s₂.heap, slotsUsed := s₂.slotsUsed } : State).setVm s₂.vm := by
      have : s₂ = ({ s₂ with vm := (U.calling g mk a).vm } : State).setVm s₂.vm := rfl
      rw [e2] at this
      exact this
    have hf₂ : s₂.frames = .throwing q :: .java g :: U.frames.tail := hend
    have hW' : U.WarmedH s₂.vm := hW₂
    have hs₂ : s₂ = ((({ U with heap := s₂.heap, slotsUsed := s₂.slotsUsed } : State).setVm s₂.vm).setTop g).pushFrame (.throwing q) := by
      refine e3.trans ?_
      rw [hf₂, State.calling_eq h.top, State.setFrames_setFrames, State.pushFrame, State.frames_setTop _ hr', State.setTop_of_frames _ hr', State.setFrames_setFrames, hr]
      rfl
    have hsame : U.sameButNew ({ U with heap := s₂.heap, slotsUsed := s₂.slotsUsed } : State) L mc ms := by
      refine ⟨?_, q2, q3, q4, q5, q6⟩
      obtain ⟨t, ht, -⟩ := State.frames_cons hr
      show ({ U with heap := s₂.heap, slotsUsed := s₂.slotsUsed } : State) = { U.setFrames U.frames with heap := s₂.heap, slotsUsed := s₂.slotsUsed }
      rw [State.setFrames_self ht]
    subst hg
    refine Or.inr ⟨q, ⟨(({ U with heap := s₂.heap, slotsUsed := s₂.slotsUsed } : State).setVm s₂.vm), Ls ++ L, c0 + mc, s0 + ms⟩,
      ⟨X.admits, X.cas, X.clock, X.frames, X.room, X.hears, X.method, X.code, (X.here.setHeapUsed s₂.heap s₂.slotsUsed).setVm hW'.alike, X.tail, State.WarmedH.trans X.warmed hW', X.limits, X.bytes, X.same.trans (hsame.setVm s.vm)⟩,
      ⟨g, mk, s₂, L, E, ce, rfl, rfl, hx, hce, hcv, hcl, rfl, hL, rfl, rfl⟩, ?_⟩
    show Steps p.tables e below _ (((({ U with heap := s₂.heap, slotsUsed := s₂.slotsUsed } : State).setVm s₂.vm).setTop g).pushFrame (.throwing q))
    rw [← hs₂]
    exact hsteps
end
variable {p : Program} {l : Launch} {e : Env} {R : Room} {s : State} {m : MethodId} {args : Array Value} {below : List Frame} {meth : Method} {c : Code} {T : State} {H : Heap} {locs : List Loc} {cells slots : Nat}
theorem vx_callVX (X : Stand p l e R s m args below meth c T locs cells slots) (hexec : p.tables.exec = Jvm.exec) {own C : String} {index : Nat} {y : MethodName} {bytes : ByteArray} {maxL : Nat} {ret : Option FieldType} {hh : List (Nat × Nat × Nat × Nat)}
    (hown : s.vm.findClass own = some m.cls) (hlink : (Cond.methodLink own index y).before args s = true) (hinst : (Cond.instanceMethod y).before args s = true) (hsel : (Cond.selects C y y).before args s = true)
    (hcode : (Cond.codeWith y bytes maxL ret hh).before args s = true) (hy : y.cls ≠ "java/lang/invoke/MethodHandle" ∧ y.cls ≠ "java/lang/invoke/VarHandle")
    {W9 : Nat} {Pre : Pt → Array Value → Prop} {Post : Pt → Array Value → Option Value → Pt → Prop} {PostX : Pt → Array Value → Addr → Pt → Prop} (hK : vx_Back l R p e below s args y 3 W9 Pre Post PostX)
    {b : Addr} {cellB : Cell} (hcell : T.heap[b]? = some cellB) (hobj : cellB.vm.isStatics = false) (hcls : s.vm.findClass C = some cellB.cls)
    {g : JFrame} (hg : g.method = m) (hsize : g.locals.size = c.maxLocals) {argsL rest : List Value} (hlen : ∀ sig, parseMethodDescriptor y.desc = some sig → argsL.length = sig.parameters.length)
    (hstack : g.stack = argsL.reverse ++ .ref b :: rest) (hW : 2 * g.monitorRoom + (rest.map fun v => v.category).sum ≤ W9) (hdg : decode c.code g.pc = .ok (.invokevirtual index, 3))
    (hpre : ∀ vm₁, s.WarmedH vm₁ → Pre ⟨T.setVm vm₁, locs, cells, slots⟩ (Value.ref b :: argsL).toArray) :
    (∃ (v : Option Value) (vm₁ : Vm) (B : Pt), s.WarmedH vm₁ ∧ Stand p l e R s m args below meth c B.U B.locs B.cells B.slots ∧ Post ⟨T.setVm vm₁, locs, cells, slots⟩ (Value.ref b :: argsL).toArray v B ∧
      ∀ target, Steps p.tables e below (B.U.setTop { g with pc := g.pc + 3, stack := v.toList ++ rest }) target → Steps p.tables e below (T.setTop g) target) ∨
    (∃ (q : Addr) (vm₁ : Vm) (B : Pt), s.WarmedH vm₁ ∧ Stand p l e R s m args below meth c B.U B.locs B.cells B.slots ∧ PostX ⟨T.setVm vm₁, locs, cells, slots⟩ (Value.ref b :: argsL).toArray q B ∧
      Steps p.tables e below (T.setTop g) ((B.U.setTop { g with stack := rest }).pushFrame (.throwing q))) := by
  obtain ⟨mk, methM, hnamed, hmethM, hstM, habM⟩ := Cond.instanceMethod_spec hinst
  obtain ⟨m8, methM', cM, hn8, hmethM', -, -, -, -, -, -, hsigM⟩ := Cond.codeWith_spec hcode
  cases Option.some.inj (hn8.symm.trans hnamed)
  cases hmethM.symm.trans hmethM'
  obtain ⟨c2, r2, m2, q1, q2, q3, q4, kP, hkP, hkPi⟩ := Cond.selects_spec hsel
  cases hcls.symm.trans q1
  cases (State.methodFound?_of_named hnamed hy).symm.trans q2
  cases hnamed.symm.trans q3
  have hselP : selectMethod e.platform s.vm cellB.cls mk = .method mk := by rw [Launch.admits_selectMethod X.admits]; exact q4
  obtain ⟨vm₁, X₁, hstep₁⟩ := X.invokevirtual hexec hown hlink hnamed hmethM hstM hkP hkPi hy (a := b) (cell := cellB) hcell
    (fun z h => by rw [h] at hobj; cases hobj) hselP hmethM habM hkP hkPi (g := g) hg (argsL := argsL) (rest := rest) (hlen _ hsigM) hstack hdg
  rcases hK m meth c ⟨T.setVm vm₁, locs, cells, slots⟩ { g with stack := rest } (.invokevirtual index) mk (Value.ref b :: argsL).toArray X₁ hg hsize hdg hW (X₁.named hnamed) (hpre vm₁ X₁.warmed) with ⟨v, B, X', hpost, hsteps⟩ | ⟨q, B, X', hpost, hsteps⟩
  · exact Or.inl ⟨v, vm₁, B, X₁.warmed, X', hpost, fun target h => hstep₁ _ fun acts => by rw [doInvoke_state]; exact hsteps.trans h⟩
  · exact Or.inr ⟨q, vm₁, B, X₁.warmed, X', hpost, hstep₁ _ fun acts => by rw [doInvoke_state]; exact hsteps⟩
theorem vx_callSX (X : Stand p l e R s m args below meth c T locs cells slots) (hexec : p.tables.exec = Jvm.exec) {own : String} {index : Nat} {y : MethodName} {bytes : ByteArray} {maxL : Nat} {ret : Option FieldType} {hh : List (Nat × Nat × Nat × Nat)}
    (hown : s.vm.findClass own = some m.cls) (hlink : (Cond.methodLink own index y).before args s = true) (hstat : (Cond.static y).before args s = true) (hinit : (Cond.initialized y.cls).before args s = true)
    (hcode : (Cond.codeWith y bytes maxL ret hh).before args s = true) (hy : y.cls ≠ "java/lang/invoke/MethodHandle" ∧ y.cls ≠ "java/lang/invoke/VarHandle")
    {W9 : Nat} {Pre : Pt → Array Value → Prop} {Post : Pt → Array Value → Option Value → Pt → Prop} {PostX : Pt → Array Value → Addr → Pt → Prop} (hK : vx_Back l R p e below s args y 3 W9 Pre Post PostX)
    {g : JFrame} (hg : g.method = m) (hsize : g.locals.size = c.maxLocals) {argsL rest : List Value} (hlen : ∀ sig, parseMethodDescriptor y.desc = some sig → argsL.length = sig.parameters.length)
    (hstack : g.stack = argsL.reverse ++ rest) (hW : 2 * g.monitorRoom + (rest.map fun v => v.category).sum ≤ W9) (hdg : decode c.code g.pc = .ok (.invokestatic index, 3))
    (hpre : ∀ vm₁, s.WarmedH vm₁ → Pre ⟨T.setVm vm₁, locs, cells, slots⟩ argsL.toArray) :
    (∃ (v : Option Value) (vm₁ : Vm) (B : Pt), s.WarmedH vm₁ ∧ Stand p l e R s m args below meth c B.U B.locs B.cells B.slots ∧ Post ⟨T.setVm vm₁, locs, cells, slots⟩ argsL.toArray v B ∧
      ∀ target, Steps p.tables e below (B.U.setTop { g with pc := g.pc + 3, stack := v.toList ++ rest }) target → Steps p.tables e below (T.setTop g) target) ∨
    (∃ (q : Addr) (vm₁ : Vm) (B : Pt), s.WarmedH vm₁ ∧ Stand p l e R s m args below meth c B.U B.locs B.cells B.slots ∧ PostX ⟨T.setVm vm₁, locs, cells, slots⟩ argsL.toArray q B ∧
      Steps p.tables e below (T.setTop g) ((B.U.setTop { g with stack := rest }).pushFrame (.throwing q))) := by
  obtain ⟨mk, methM, cM, hnamed, hmethM, -, -, -, -, -, -, hsigM⟩ := Cond.codeWith_spec hcode
  have hstatic : methM.isStatic = true := Cond.static_spec hnamed hmethM hstat
  obtain ⟨kP, hkP, -⟩ := className_of_methodNamed hnamed
  have hinitP : kP.init = .initialized := Cond.initialized_spec (findClass_of_methodNamed hnamed) hkP hinit
  obtain ⟨vm₁, X₁, hstep₁⟩ := X.invokestatic hexec hown hlink hnamed hmethM hstatic hkP hinitP hy (g := g) hg (argsL := argsL) (rest := rest) (hlen _ hsigM) hstack hdg
  rcases hK m meth c ⟨T.setVm vm₁, locs, cells, slots⟩ { g with stack := rest } (.invokestatic index) mk argsL.toArray X₁ hg hsize hdg hW (X₁.named hnamed) (hpre vm₁ X₁.warmed) with ⟨v, B, X', hpost, hsteps⟩ | ⟨q, B, X', hpost, hsteps⟩
  · exact Or.inl ⟨v, vm₁, B, X₁.warmed, X', hpost, fun target h => hstep₁ _ fun acts => by rw [doInvoke_state]; exact hsteps.trans h⟩
  · exact Or.inr ⟨q, vm₁, B, X₁.warmed, X', hpost, hstep₁ _ fun acts => by rw [doInvoke_state]; exact hsteps⟩
theorem vx_callVW (X : Stand p l e R s m args below meth c T locs cells slots) (hexec : p.tables.exec = Jvm.exec) {own C : String} {index : Nat} {y : MethodName} {bytes : ByteArray} {maxL : Nat} {ret : Option FieldType} {hh : List (Nat × Nat × Nat × Nat)}
    (hown : s.vm.findClass own = some m.cls) (hlink : (Cond.methodLink own index y).before args s = true) (hinst : (Cond.instanceMethod y).before args s = true) (hsel : (Cond.selects C y y).before args s = true)
    (hcode : (Cond.codeWith y bytes maxL ret hh).before args s = true) (hy : y.cls ≠ "java/lang/invoke/MethodHandle" ∧ y.cls ≠ "java/lang/invoke/VarHandle")
    {W9 : Nat} {Pre : Pt → Array Value → Prop} {Post : Pt → Array Value → Option Value → Pt → Prop} (hK : Back l R p e below s args y 3 W9 Pre Post)
    {b : Addr} {cellB : Cell} (hcell : T.heap[b]? = some cellB) (hobj : cellB.vm.isStatics = false) (hcls : s.vm.findClass C = some cellB.cls)
    {g : JFrame} (hg : g.method = m) (hsize : g.locals.size = c.maxLocals) {argsL rest : List Value} (hlen : ∀ sig, parseMethodDescriptor y.desc = some sig → argsL.length = sig.parameters.length)
    (hstack : g.stack = argsL.reverse ++ .ref b :: rest) (hW : 2 * g.monitorRoom + (rest.map fun v => v.category).sum ≤ W9) (hdg : decode c.code g.pc = .ok (.invokevirtual index, 3))
    (hpre : ∀ vm₁, s.WarmedH vm₁ → Pre ⟨T.setVm vm₁, locs, cells, slots⟩ (Value.ref b :: argsL).toArray) :
    ∃ (v : Option Value) (vm₁ : Vm) (B : Pt), s.WarmedH vm₁ ∧ Stand p l e R s m args below meth c B.U B.locs B.cells B.slots ∧ Post ⟨T.setVm vm₁, locs, cells, slots⟩ (Value.ref b :: argsL).toArray v B ∧
      ∀ target, Steps p.tables e below (B.U.setTop { g with pc := g.pc + 3, stack := v.toList ++ rest }) target → Steps p.tables e below (T.setTop g) target := by
  obtain ⟨mk, methM, hnamed, hmethM, hstM, habM⟩ := Cond.instanceMethod_spec hinst
  obtain ⟨m8, methM', cM, hn8, hmethM', -, -, -, -, -, -, hsigM⟩ := Cond.codeWith_spec hcode
  cases Option.some.inj (hn8.symm.trans hnamed)
  cases hmethM.symm.trans hmethM'
  obtain ⟨c2, r2, m2, q1, q2, q3, q4, kP, hkP, hkPi⟩ := Cond.selects_spec hsel
  cases hcls.symm.trans q1
  cases (State.methodFound?_of_named hnamed hy).symm.trans q2
  cases hnamed.symm.trans q3
  have hselP : selectMethod e.platform s.vm cellB.cls mk = .method mk := by rw [Launch.admits_selectMethod X.admits]; exact q4
  obtain ⟨vm₁, X₁, hstep₁⟩ := X.invokevirtual hexec hown hlink hnamed hmethM hstM hkP hkPi hy (a := b) (cell := cellB) hcell
    (fun z h => by rw [h] at hobj; cases hobj) hselP hmethM habM hkP hkPi (g := g) hg (argsL := argsL) (rest := rest) (hlen _ hsigM) hstack hdg
  obtain ⟨v, B, X', hpost, hsteps⟩ := hK m meth c ⟨T.setVm vm₁, locs, cells, slots⟩ { g with stack := rest } (.invokevirtual index) mk (Value.ref b :: argsL).toArray X₁ hg hsize hdg hW (X₁.named hnamed) (hpre vm₁ X₁.warmed)
  exact ⟨v, vm₁, B, X₁.warmed, X', hpost, fun target h => hstep₁ _ fun acts => by rw [doInvoke_state]; exact hsteps.trans h⟩
abbrev vx_CVW (R : Room) (s : State) (args : Array Value) (own C : String) (index : Nat) (y : MethodName) (bytes : ByteArray) (maxL : Nat) (ret : Option FieldType) (hh : List (Nat × Nat × Nat × Nat)) (ws : List Cond) (rm : Room) (mc ms n : Nat) : Prop :=
  (rm.cells = mc ∧ rm.slots = ms ∧ rm.frames + 1 ≤ R.frames ∧ 8 + (maxL + 11) + rm.locals ≤ R.locals ∧ (∀ w ∈ ws, ∀ (a' : Array Value) (U : State), s.WarmedH U.vm → w.before a' U = true) ∧ Cond.codeWith y bytes maxL ret hh ∈ ws) ∧
  (Cond.codeWith y bytes maxL ret hh).before args s = true ∧ (Cond.initialized y.cls).before args s = true ∧ (y.cls ≠ "java/lang/invoke/MethodHandle" ∧ y.cls ≠ "java/lang/invoke/VarHandle") ∧
  (∀ sig, parseMethodDescriptor y.desc = some sig → n = sig.parameters.length) ∧ (Cond.methodLink own index y).before args s = true ∧ (Cond.instanceMethod y).before args s = true ∧ (Cond.selects C y y).before args s = true
theorem vx_cwVW {own C : String} {index maxL mc ms : Nat} {y : MethodName} {bytes : ByteArray} {ret : Option FieldType} {hh : List (Nat × Nat × Nat × Nat)} {Ts ws ws' : List Cond} {rm : Room} (n : Nat) (ht : ∀ w ∈ Ts, w.before args s = true) (hT : GoodIn Ts (wsV own index C y ws)) (hw : ws = Cond.codeWith y bytes maxL ret hh :: ws') (hrc : rm.cells = mc) (hrs : rm.slots = ms)
    (hd : y.cls = C ∧ y.cls ≠ "java/lang/invoke/MethodHandle" ∧ y.cls ≠ "java/lang/invoke/VarHandle" ∧ (parseMethodDescriptor y.desc).map (fun d => d.parameters.length) = some n) (hR : rm.frames + 1 ≤ R.frames ∧ 8 + (maxL + 11) + rm.locals ≤ R.locals) :
    vx_CVW R s args own C index y bytes maxL ret hh ws rm mc ms n := by
  obtain ⟨hC, hd⟩ := hd
  subst hC
  have ok : ∀ w ∈ wsV own index y.cls y ws, w.before args s = true := fun w h => ht w (hT w h).1
  have hG : GoodIn Ts ws := fun w h => hT w (by unfold wsV; exact List.mem_append_right _ h)
  have hc : Cond.codeWith y bytes maxL ret hh ∈ ws := by rw [hw]; exact List.mem_cons_self
  refine ⟨⟨hrc, hrs, hR.1, hR.2, pay_in ht hG, hc⟩, ht _ (hG _ hc).1, ok _ (by simp [wsV]), ⟨hd.1, hd.2.1⟩, fun sig h => ?_, ok _ (by simp [wsV]), ok _ (by simp [wsV]), ok _ (by simp [wsV])⟩
  have h2 := hd.2.2
  rw [h] at h2
  exact (Option.some.inj h2).symm
theorem vx_runVW {y : MethodName} {bytes cc : ByteArray} {maxL nL mc ms n index : Nat} {ret : Option FieldType} {hh : List (Nat × Nat × Nat × Nat)} {ws : List Cond} {rm : Room} {Pc : Array Value → State → Prop} {Qc : Array Value → State → Outcome → State → Prop} {free : Addr → Prop} {Ts : List Cond} {own C : String} {b : Addr} {As rest : List Value} {g : JFrame}
    (S : CallFix p m c cc nL s args Ts own) (hM : Met l y ws rm Pc Qc mc ms free) (cw : vx_CVW R s args own C index y bytes maxL ret hh ws rm mc ms n) (hp : PreV s H C b Pc As)
    (hg : g.method = m) (hn : As.length = n) (hsize : g.locals.size = nL) (hstack : g.stack = As.reverse ++ .ref b :: rest) (hW : 2 * g.monitorRoom + (rest.map fun v => v.category).sum ≤ 8) (hdg : decode cc g.pc = .ok (.invokevirtual index, 3)) (hf : cells + mc ≤ R.cells ∧ slots + ms ≤ R.slots) :
    va_Run p l e R s m args below meth c H locs cells slots mc ms g rest (Qc (Value.ref b :: As).toArray) free := by
  obtain ⟨⟨hrc, hrs, hfr, hlo, hws, hcw⟩, hcode, hini, hy, hlen, hl, hin, hse⟩ := cw
  have hK : Back l R p e below s args y 3 8 (PreOf R mc ms Pc) (PostOf Qc mc ms free) := va_backW (hh := hh) (bytes := bytes) (maxL := maxL) (ret := ret) hM hp.1 hrc hrs hfr hlo hws hcw (fun a' U hW => word_at hW (Or.inl (by first | rfl | simp [Cond.onTables, Cond.keeps, Cond.steady])) hini)
  obtain ⟨hx, hb, hml, ho, -⟩ := S
  obtain ⟨-, ⟨cellB, hcB, hoB, hclB⟩, hPc⟩ := hp
  intro T hT X
  obtain ⟨v, vm₁, ⟨U', l2, c2, s2⟩, hW₁, X', ⟨g', mk, t, L, e1, e2, hq, h1, hL, h2, h3⟩, st⟩ := vx_callVW X hx (C := C) (hh := hh) (bytes := bytes) (maxL := maxL) (ret := ret) ho hl hin hse hcode hy hK (by rw [hT]; exact hcB) hoB hclB hg (hsize.trans hml.symm) (argsL := As) (rest := rest) (fun sig h => hn.trans (hlen sig h)) hstack hW (by rw [hb]; exact hdg)
    (fun vm₁ hW₁ => ⟨hf.1, hf.2, hPc (T.setVm vm₁) hT hW₁⟩)
  dsimp only [Pt.U, Pt.locs, Pt.cells, Pt.slots] at X' e1 e2 h1 h2 h3 st
  subst h1; subst h2; subst h3
  exact ⟨v, (T.setVm vm₁).calling g' mk (Value.ref b :: As).toArray, t, U', L, hT, X', hL, e1, e2, hq, st⟩
section
variable {y : MethodName} {bytes cc : ByteArray} {maxL nL mc ms n index : Nat} {ret : Option FieldType} {ws : List Cond} {rm : Room} {Pc : Array Value → State → Prop} {Qc : Array Value → State → Outcome → State → Prop} {XC : String → State → State → Prop} {free : Addr → Prop} {Ts : List Cond} {own C : String} {b : Addr} {As rest : List Value} {g : JFrame}
theorem vx_runVX {hh : List (Nat × Nat × Nat × Nat)} (S : CallFix p m c cc nL s args Ts own) (hM : vx_Met l y ws rm Pc Qc XC mc ms free) (cw : vx_CVW R s args own C index y bytes maxL ret hh ws rm mc ms n) (hp : PreV s H C b Pc As)
    (hg : g.method = m) (hn : As.length = n) (hsize : g.locals.size = nL) (hstack : g.stack = As.reverse ++ .ref b :: rest) (hW : 2 * g.monitorRoom + (rest.map fun v => v.category).sum ≤ 8) (hdg : decode cc g.pc = .ok (.invokevirtual index, 3)) (hf : cells + mc ≤ R.cells ∧ slots + ms ≤ R.slots) :
    vx_Run p l e R s m args below meth c H locs cells slots mc ms g rest (Qc (Value.ref b :: As).toArray) XC free := by
  obtain ⟨⟨hrc, hrs, hfr, hlo, hws, hcw⟩, hcode, hini, hy, hlen, hl, hin, hse⟩ := cw
  have hK : vx_Back l R p e below s args y 3 8 (PreOf R mc ms Pc) (PostOf Qc mc ms free) (vx_Post XC mc ms free) := vx_backW (hh := hh) (bytes := bytes) (maxL := maxL) (ret := ret) hM hp.1 hrc hrs hfr hlo hws hcw (fun a' U hW => word_at hW (Or.inl (by first | rfl | simp [Cond.onTables, Cond.keeps, Cond.steady])) hini)
  obtain ⟨hx, hb, hml, ho, -⟩ := S
  obtain ⟨-, ⟨cellB, hcB, hoB, hclB⟩, hPc⟩ := hp
  intro T hT X
  rcases vx_callVX X hx (C := C) (hh := hh) (bytes := bytes) (maxL := maxL) (ret := ret) ho hl hin hse hcode hy hK (by rw [hT]; exact hcB) hoB hclB hg (hsize.trans hml.symm) (argsL := As) (rest := rest) (fun sig h => hn.trans (hlen sig h)) hstack hW (by rw [hb]; exact hdg)
    (fun vm₁ hW₁ => ⟨hf.1, hf.2, hPc (T.setVm vm₁) hT hW₁⟩) with ⟨v, vm₁, ⟨U', l2, c2, s2⟩, hW₁, X', ⟨g', mk, t, L, e1, e2, hq, h1, hL, h2, h3⟩, st⟩ | ⟨q, vm₁, ⟨U', l2, c2, s2⟩, hW₁, X', ⟨g', mk, t, L, E, ce, e1, e2, hq, hce, hcv, hcl, h1, hL, h2, h3⟩, st⟩
  · dsimp only [Pt.U, Pt.locs, Pt.cells, Pt.slots] at X' e1 e2 h1 h2 h3 st
    subst h1; subst h2; subst h3
    exact Or.inl ⟨v, (T.setVm vm₁).calling g' mk (Value.ref b :: As).toArray, t, U', L, hT, X', hL, e1, e2, hq, st⟩
  · dsimp only [Pt.U, Pt.locs, Pt.cells, Pt.slots] at X' e1 e2 h1 h2 h3 st hcl
    subst h1; subst h2; subst h3
    exact Or.inr ⟨q, (T.setVm vm₁).calling g' mk (Value.ref b :: As).toArray, t, U', L, E, ce, hT, X', hL, e1, e2, hq, hce, hcv, vx_cls hW₁ hcl, st⟩
theorem vx_runSX {hh : List (Nat × Nat × Nat × Nat)} (S : CallFix p m c cc nL s args Ts own) (hM : vx_Met l y ws rm Pc Qc XC mc ms free) (cw : vx_CSW R s args own index y bytes maxL ret hh ws rm mc ms n) (hp : PreS s H Pc As)
    (hg : g.method = m) (hn : As.length = n) (hsize : g.locals.size = nL) (hstack : g.stack = As.reverse ++ rest) (hW : 2 * g.monitorRoom + (rest.map fun v => v.category).sum ≤ 8) (hdg : decode cc g.pc = .ok (.invokestatic index, 3)) (hf : cells + mc ≤ R.cells ∧ slots + ms ≤ R.slots) :
    vx_Run p l e R s m args below meth c H locs cells slots mc ms g rest (Qc As.toArray) XC free := by
  obtain ⟨⟨hrc, hrs, hfr, hlo, hws, hcw⟩, hcode, hini, hy, hlen, hl, hstt⟩ := cw
  have hK : vx_Back l R p e below s args y 3 8 (PreOf R mc ms Pc) (PostOf Qc mc ms free) (vx_Post XC mc ms free) := vx_backW (hh := hh) (bytes := bytes) (maxL := maxL) (ret := ret) hM hp.1 hrc hrs hfr hlo hws hcw (fun a' U hW => word_at hW (Or.inl (by first | rfl | simp [Cond.onTables, Cond.keeps, Cond.steady])) hini)
  obtain ⟨hx, hb, hml, ho, -⟩ := S
  intro T hT X
  rcases vx_callSX X hx (hh := hh) (bytes := bytes) (maxL := maxL) (ret := ret) ho hl hstt hini hcode hy hK hg (hsize.trans hml.symm) (argsL := As) (rest := rest) (fun sig h => hn.trans (hlen sig h)) hstack hW (by rw [hb]; exact hdg)
    (fun vm₁ hW₁ => ⟨hf.1, hf.2, hp.2 (T.setVm vm₁) hT hW₁⟩) with ⟨v, vm₁, ⟨U', l2, c2, s2⟩, hW₁, X', ⟨g', mk, t, L, e1, e2, hq, h1, hL, h2, h3⟩, st⟩ | ⟨q, vm₁, ⟨U', l2, c2, s2⟩, hW₁, X', ⟨g', mk, t, L, E, ce, e1, e2, hq, hce, hcv, hcl, h1, hL, h2, h3⟩, st⟩
  · dsimp only [Pt.U, Pt.locs, Pt.cells, Pt.slots] at X' e1 e2 h1 h2 h3 st
    subst h1; subst h2; subst h3
    exact Or.inl ⟨v, (T.setVm vm₁).calling g' mk As.toArray, t, U', L, hT, X', hL, e1, e2, hq, st⟩
  · dsimp only [Pt.U, Pt.locs, Pt.cells, Pt.slots] at X' e1 e2 h1 h2 h3 st hcl
    subst h1; subst h2; subst h3
    exact Or.inr ⟨q, (T.setVm vm₁).calling g' mk As.toArray, t, U', L, E, ce, hT, X', hL, e1, e2, hq, hce, hcv, vx_cls hW₁ hcl, st⟩
end
end VXH
theorem vx_ofWH {l : Launch} {y : MethodName} {ws ws' : List Cond} {rm : Room} {Pc : Array Value → State → Prop} {Qc : Array Value → State → Outcome → State → Prop} {XC : String → State → State → Prop} {mc ms : Nat} {free : Addr → Prop} {cc : ByteArray} {maxL : Nat} {ret : Option FieldType} {hh : List (Nat × Nat × Nat × Nat)}
    (hy : plainName y.cls = true) (hw : ws = Cond.codeWith y cc maxL ret hh :: ws')
    (body : ∀ p e s m args below meth c s₁, BodyLoose p l y (headSpec ws rm) cc maxL ret e s m args below meth c s₁ → c.maxLocals = maxL → Pc args s →
      W p l e (headSpec ws rm).room s m args below meth c s.heap [] 0 0 (vx_MQ below Qc XC args s mc ms free) (entryFrame m args maxL)) : vx_Met l y ws rm Pc Qc XC mc ms free := by
  refine MetFree.of_bodyS (code := cc) (maxLocals := maxL) (ret := ret) hy ?_ ?_
  · intro args s m h hn
    obtain ⟨m9, meth, c, hn9, h1, h2, h3, h4, -, h5, h6, -⟩ := Cond.codeWith_spec (atoms_spec (ws := ws) h _ (by rw [hw]; exact List.mem_cons_self))
    cases hn.symm.trans hn9
    exact ⟨meth, c, h1, h2, h3, h4, h5, h6⟩
  · intro p e s m args below meth c s₁ B hml hP _
    have hh0 : s₁.heap = s.heap := by rw [B.state]; rfl
    obtain ⟨t, a1, o, b1, b2, b3⟩ := body p e s m args below meth c s₁ B hml hP s₁ hh0 (Stand.of_body B)
    exact ⟨t, o, a1, b1, b2, b3⟩
/-! ===== END ===== -/
end
section
/-! ===== BEGIN printed: names, fields, word lists, decode rows ===== -/
def RX0 : String := "PostingPlanner$Group"
def TX0 : u_T := fun k => match k with
  | _ => ("", "", "", false)
def tyX0 : Nat → FieldType := fun k => match k with
  | _ => .int
abbrev wsX00 : List Cond := u_ws RX0 TX0 0
theorem nmX0 : ∀ a, a < 0 → ∀ b, b < 0 → a ≠ b → (TX0 a).2.1 ≠ (TX0 b).2.1 := by decide +kernel
theorem tyX0_ok : ∀ k, k < 0 → parseFieldDescriptor (TX0 k).2.2.1 = some (tyX0 k) := by decide +kernel
abbrev cX0_init : ByteArray := prog_2_method_1_code
def yX0_init : MethodName := ⟨RX0, "<init>", "()V"⟩
abbrev cX0_restart : ByteArray := prog_2_method_2_code
def yX0_restart : MethodName := ⟨RX0, "restart", "(IIJ)V"⟩
abbrev cX0_partAt : ByteArray := prog_2_method_3_code
def yX0_partAt : MethodName := ⟨RX0, "partAt", "(I)LPostingPlanner$Part;"⟩
abbrev cX0_hasRank : ByteArray := prog_2_method_4_code
def yX0_hasRank : MethodName := ⟨RX0, "hasRank", "(I)Z"⟩
abbrev cX0_keep : ByteArray := prog_2_method_5_code
def yX0_keep : MethodName := ⟨RX0, "keep", "(LPostingPlanner$Part;)V"⟩
abbrev cX0_isFixed : ByteArray := prog_2_method_6_code
def yX0_isFixed : MethodName := ⟨RX0, "isFixed", "()Z"⟩
abbrev cX0_fix : ByteArray := prog_2_method_7_code
def yX0_fix : MethodName := ⟨RX0, "fix", "(I)V"⟩
abbrev cX0_settleSome : ByteArray := prog_2_method_8_code
def yX0_settleSome : MethodName := ⟨RX0, "settleSome", "(I)V"⟩
abbrev cX0_settleEmpty : ByteArray := prog_2_method_9_code
def yX0_settleEmpty : MethodName := ⟨RX0, "settleEmpty", "()V"⟩
abbrev cX0_appraise : ByteArray := prog_2_method_10_code
def yX0_appraise : MethodName := ⟨RX0, "appraise", "()V"⟩
abbrev cX0_leastEstimate : ByteArray := prog_2_method_11_code
def yX0_leastEstimate : MethodName := ⟨RX0, "leastEstimate", "(I)I"⟩
abbrev cX0_sumOfEstimates : ByteArray := prog_2_method_12_code
def yX0_sumOfEstimates : MethodName := ⟨RX0, "sumOfEstimates", "()I"⟩
abbrev cX0_order : ByteArray := prog_2_method_13_code
def yX0_order : MethodName := ⟨RX0, "order", "()V"⟩
abbrev cX0_isBefore : ByteArray := prog_2_method_14_code
def yX0_isBefore : MethodName := ⟨RX0, "isBefore", "(LPostingPlanner$Part;LPostingPlanner$Part;)Z"⟩
abbrev cX0_seek : ByteArray := prog_2_method_15_code
def yX0_seek : MethodName := ⟨RX0, "seek", "(II)I"⟩
abbrev cX0_seekAll : ByteArray := prog_2_method_16_code
def yX0_seekAll : MethodName := ⟨RX0, "seekAll", "(II)I"⟩
abbrev cX0_seekAny : ByteArray := prog_2_method_17_code
def yX0_seekAny : MethodName := ⟨RX0, "seekAny", "(II)I"⟩
abbrev cX0_seekSome : ByteArray := prog_2_method_18_code
def yX0_seekSome : MethodName := ⟨RX0, "seekSome", "(II)I"⟩
abbrev cX0_neededPlace : ByteArray := prog_2_method_19_code
def yX0_neededPlace : MethodName := ⟨RX0, "neededPlace", "()I"⟩
abbrev cX0_placesUpTo : ByteArray := prog_2_method_20_code
def yX0_placesUpTo : MethodName := ⟨RX0, "placesUpTo", "(I)I"⟩
def RX1 : String := "PostingPlanner$Part"
def TX1 : u_T := fun k => match k with
  | _ => ("", "", "", false)
def tyX1 : Nat → FieldType := fun k => match k with
  | _ => .int
abbrev wsX10 : List Cond := u_ws RX1 TX1 0
theorem nmX1 : ∀ a, a < 0 → ∀ b, b < 0 → a ≠ b → (TX1 a).2.1 ≠ (TX1 b).2.1 := by decide +kernel
theorem tyX1_ok : ∀ k, k < 0 → parseFieldDescriptor (TX1 k).2.2.1 = some (tyX1 k) := by decide +kernel
abbrev cX1_init : ByteArray := prog_3_method_1_code
def yX1_init : MethodName := ⟨RX1, "<init>", "()V"⟩
def RX2 : String := "PostingPlanner$Plan"
def TX2 : u_T := fun k => match k with
  | 0 => ("PostingPlanner$Group", "parts", "[LPostingPlanner$Part;", true)
  | 1 => ("PostingPlanner$Group", "kind", "I", false)
  | 2 => ("PostingPlanner$Group", "need", "I", false)
  | 3 => ("PostingPlanner$Group", "size", "I", false)
  | 4 => ("PostingPlanner$Group", "there", "J", false)
  | 5 => ("PostingPlanner$Part", "rank", "I", false)
  | 6 => ("PostingPlanner$Part", "estimate", "I", false)
  | 7 => ("PostingPlanner$Part", "place", "I", false)
  | _ => ("PostingPlanner$Plan", "clauses", "[LPostingPlanner$PlannedClause;", true)
def tyX2 : Nat → FieldType := fun k => match k with
  | 0 => .array (.object "PostingPlanner$Part")
  | 1 => .int
  | 2 => .int
  | 3 => .int
  | 4 => .long
  | 5 => .int
  | 6 => .int
  | 7 => .int
  | _ => .array (.object "PostingPlanner$PlannedClause")
abbrev wsX20 : List Cond := u_ws RX2 TX2 9
theorem nmX2 : ∀ a, a < 9 → ∀ b, b < 9 → a ≠ b → (TX2 a).2.1 ≠ (TX2 b).2.1 := by decide +kernel
theorem tyX2_ok : ∀ k, k < 9 → parseFieldDescriptor (TX2 k).2.2.1 = some (tyX2 k) := by decide +kernel
abbrev cX2_init : ByteArray := prog_4_method_1_code
def yX2_init : MethodName := ⟨RX2, "<init>", "(LPostingPlanner$Tally;)V"⟩
abbrev cX2_make : ByteArray := prog_4_method_2_code
def yX2_make : MethodName := ⟨RX2, "make", "(LPostingPlanner$Question;LPostingPlanner$Shelf;)V"⟩
abbrev cX2_takeIn : ByteArray := prog_4_method_3_code
def yX2_takeIn : MethodName := ⟨RX2, "takeIn", "(LPostingPlanner$PlannedClause;)V"⟩
abbrev cX2_plannedAt : ByteArray := prog_4_method_4_code
def yX2_plannedAt : MethodName := ⟨RX2, "plannedAt", "(I)LPostingPlanner$PlannedClause;"⟩
def RX3 : String := "PostingPlanner$PlannedClause"
def TX3 : u_T := fun k => match k with
  | 0 => ("PostingPlanner$Group", "parts", "[LPostingPlanner$Part;", true)
  | 1 => ("PostingPlanner$Group", "kind", "I", false)
  | 2 => ("PostingPlanner$Group", "need", "I", false)
  | 3 => ("PostingPlanner$Group", "size", "I", false)
  | 4 => ("PostingPlanner$Group", "there", "J", false)
  | 5 => ("PostingPlanner$Part", "rank", "I", false)
  | 6 => ("PostingPlanner$Part", "estimate", "I", false)
  | 7 => ("PostingPlanner$Part", "place", "I", false)
  | _ => ("PostingPlanner$PlannedClause", "literals", "[LPostingPlanner$PlannedLiteral;", true)
def tyX3 : Nat → FieldType := fun k => match k with
  | 0 => .array (.object "PostingPlanner$Part")
  | 1 => .int
  | 2 => .int
  | 3 => .int
  | 4 => .long
  | 5 => .int
  | 6 => .int
  | 7 => .int
  | _ => .array (.object "PostingPlanner$PlannedLiteral")
abbrev wsX30 : List Cond := u_ws RX3 TX3 9
theorem nmX3 : ∀ a, a < 9 → ∀ b, b < 9 → a ≠ b → (TX3 a).2.1 ≠ (TX3 b).2.1 := by decide +kernel
theorem tyX3_ok : ∀ k, k < 9 → parseFieldDescriptor (TX3 k).2.2.1 = some (tyX3 k) := by decide +kernel
abbrev cX3_init : ByteArray := prog_5_method_1_code
def yX3_init : MethodName := ⟨RX3, "<init>", "(ILPostingPlanner$Tally;)V"⟩
abbrev cX3_make : ByteArray := prog_5_method_2_code
def yX3_make : MethodName := ⟨RX3, "make", "(LPostingPlanner$ToldClause;LPostingPlanner$Shelf;J)V"⟩
abbrev cX3_turn : ByteArray := prog_5_method_3_code
def yX3_turn : MethodName := ⟨RX3, "turn", "(I)V"⟩
abbrev cX3_keepLiterals : ByteArray := prog_5_method_4_code
def yX3_keepLiterals : MethodName := ⟨RX3, "keepLiterals", "(LPostingPlanner$ToldClause;LPostingPlanner$Shelf;J)V"⟩
abbrev cX3_settleContraries : ByteArray := prog_5_method_5_code
def yX3_settleContraries : MethodName := ⟨RX3, "settleContraries", "()V"⟩
def RX4 : String := "PostingPlanner$PlannedLiteral"
def TX4 : u_T := fun k => match k with
  | 0 => ("PostingPlanner$Part", "rank", "I", false)
  | 1 => ("PostingPlanner$Part", "estimate", "I", false)
  | 2 => ("PostingPlanner$Part", "place", "I", false)
  | 3 => ("PostingPlanner$PlannedLiteral", "tally", "LPostingPlanner$Tally;", true)
  | 4 => ("PostingPlanner$PlannedLiteral", "there", "J", false)
  | _ => ("PostingPlanner$PlannedLiteral", "truths", "J", false)
def tyX4 : Nat → FieldType := fun k => match k with
  | 0 => .int
  | 1 => .int
  | 2 => .int
  | 3 => .object "PostingPlanner$Tally"
  | 4 => .long
  | _ => .long
abbrev wsX40 : List Cond := u_ws RX4 TX4 6
theorem nmX4 : ∀ a, a < 6 → ∀ b, b < 6 → a ≠ b → (TX4 a).2.1 ≠ (TX4 b).2.1 := by decide +kernel
theorem tyX4_ok : ∀ k, k < 6 → parseFieldDescriptor (TX4 k).2.2.1 = some (tyX4 k) := by decide +kernel
abbrev cX4_init : ByteArray := prog_6_method_1_code
def yX4_init : MethodName := ⟨RX4, "<init>", "(LPostingPlanner$Tally;)V"⟩
abbrev cX4_make : ByteArray := prog_6_method_2_code
def yX4_make : MethodName := ⟨RX4, "make", "(IJJ)V"⟩
abbrev cX4_seek : ByteArray := prog_6_method_3_code
def yX4_seek : MethodName := ⟨RX4, "seek", "(II)I"⟩
abbrev cX4_cost : ByteArray := prog_6_method_4_code
def yX4_cost : MethodName := ⟨RX4, "cost", "(I)I"⟩
def RX5 : String := "PostingPlanner$Question"
def TX5 : u_T := fun k => match k with
  | 0 => ("PostingPlanner$Question", "clauses", "[LPostingPlanner$ToldClause;", true)
  | 1 => ("PostingPlanner$Question", "kind", "I", false)
  | 2 => ("PostingPlanner$Question", "need", "I", false)
  | _ => ("PostingPlanner$Question", "size", "I", false)
def tyX5 : Nat → FieldType := fun k => match k with
  | 0 => .array (.object "PostingPlanner$ToldClause")
  | 1 => .int
  | 2 => .int
  | _ => .int
abbrev wsX50 : List Cond := u_ws RX5 TX5 4
theorem nmX5 : ∀ a, a < 4 → ∀ b, b < 4 → a ≠ b → (TX5 a).2.1 ≠ (TX5 b).2.1 := by decide +kernel
theorem tyX5_ok : ∀ k, k < 4 → parseFieldDescriptor (TX5 k).2.2.1 = some (tyX5 k) := by decide +kernel
abbrev cX5_init : ByteArray := prog_7_method_1_code
def yX5_init : MethodName := ⟨RX5, "<init>", "()V"⟩
abbrev cX5_restart : ByteArray := prog_7_method_2_code
def yX5_restart : MethodName := ⟨RX5, "restart", "(II)I"⟩
abbrev cX5_append : ByteArray := prog_7_method_3_code
def yX5_append : MethodName := ⟨RX5, "append", "(IIZ)I"⟩
abbrev cX5_toldAt : ByteArray := prog_7_method_4_code
def yX5_toldAt : MethodName := ⟨RX5, "toldAt", "(I)LPostingPlanner$ToldClause;"⟩
abbrev cX5_isTrueOf : ByteArray := prog_7_method_5_code
def yX5_isTrueOf : MethodName := ⟨RX5, "isTrueOf", "(I)Z"⟩
def RX6 : String := "PostingPlanner$Run"
def TX6 : u_T := fun k => match k with
  | 0 => ("PostingPlanner$Run", "tally", "LPostingPlanner$Tally;", true)
  | 1 => ("PostingPlanner$Run", "plan", "LPostingPlanner$Plan;", true)
  | 2 => ("PostingPlanner$Run", "isBegun", "Z", false)
  | _ => ("PostingPlanner$Run", "given", "I", false)
def tyX6 : Nat → FieldType := fun k => match k with
  | 0 => .object "PostingPlanner$Tally"
  | 1 => .object "PostingPlanner$Plan"
  | 2 => .boolean
  | _ => .int
abbrev wsX60 : List Cond := u_ws RX6 TX6 4
theorem nmX6 : ∀ a, a < 4 → ∀ b, b < 4 → a ≠ b → (TX6 a).2.1 ≠ (TX6 b).2.1 := by decide +kernel
theorem tyX6_ok : ∀ k, k < 4 → parseFieldDescriptor (TX6 k).2.2.1 = some (tyX6 k) := by decide +kernel
abbrev cX6_init : ByteArray := prog_8_method_1_code
def yX6_init : MethodName := ⟨RX6, "<init>", "()V"⟩
abbrev cX6_restart : ByteArray := prog_8_method_2_code
def yX6_restart : MethodName := ⟨RX6, "restart", "(LPostingPlanner$Question;LPostingPlanner$Shelf;)I"⟩
abbrev cX6_advance : ByteArray := prog_8_method_3_code
def yX6_advance : MethodName := ⟨RX6, "advance", "(I)I"⟩
def RX7 : String := "PostingPlanner$Shelf"
def TX7 : u_T := fun k => match k with
  | _ => ("PostingPlanner$Shelf", "words", "[I", true)
def tyX7 : Nat → FieldType := fun k => match k with
  | _ => .array .int
abbrev wsX70 : List Cond := u_ws RX7 TX7 1
theorem nmX7 : ∀ a, a < 1 → ∀ b, b < 1 → a ≠ b → (TX7 a).2.1 ≠ (TX7 b).2.1 := by decide +kernel
theorem tyX7_ok : ∀ k, k < 1 → parseFieldDescriptor (TX7 k).2.2.1 = some (tyX7 k) := by decide +kernel
abbrev cX7_init : ByteArray := prog_9_method_1_code
def yX7_init : MethodName := ⟨RX7, "<init>", "()V"⟩
abbrev cX7_wordsAt : ByteArray := prog_9_method_2_code
def yX7_wordsAt : MethodName := ⟨RX7, "wordsAt", "(I)I"⟩
abbrev cX7_replace : ByteArray := prog_9_method_3_code
def yX7_replace : MethodName := ⟨RX7, "replace", "(II)Z"⟩
abbrev cX7_allThere : ByteArray := prog_9_method_4_code
def yX7_allThere : MethodName := ⟨RX7, "allThere", "()J"⟩
abbrev cX7_truthsOf : ByteArray := prog_9_method_5_code
def yX7_truthsOf : MethodName := ⟨RX7, "truthsOf", "(I)J"⟩
def RX8 : String := "PostingPlanner$Tally"
def TX8 : u_T := fun k => match k with
  | _ => ("PostingPlanner$Tally", "sum", "I", false)
def tyX8 : Nat → FieldType := fun k => match k with
  | _ => .int
abbrev wsX80 : List Cond := u_ws RX8 TX8 1
theorem nmX8 : ∀ a, a < 1 → ∀ b, b < 1 → a ≠ b → (TX8 a).2.1 ≠ (TX8 b).2.1 := by decide +kernel
theorem tyX8_ok : ∀ k, k < 1 → parseFieldDescriptor (TX8 k).2.2.1 = some (tyX8 k) := by decide +kernel
abbrev cX8_init : ByteArray := prog_10_method_1_code
def yX8_init : MethodName := ⟨RX8, "<init>", "()V"⟩
def RX9 : String := "PostingPlanner$ToldClause"
def TX9 : u_T := fun k => match k with
  | 0 => ("PostingPlanner$ToldClause", "codes", "[I", true)
  | 1 => ("PostingPlanner$ToldClause", "kind", "I", false)
  | 2 => ("PostingPlanner$ToldClause", "need", "I", false)
  | 3 => ("PostingPlanner$ToldClause", "isNegated", "Z", false)
  | _ => ("PostingPlanner$ToldClause", "size", "I", false)
def tyX9 : Nat → FieldType := fun k => match k with
  | 0 => .array .int
  | 1 => .int
  | 2 => .int
  | 3 => .boolean
  | _ => .int
abbrev wsX90 : List Cond := u_ws RX9 TX9 5
theorem nmX9 : ∀ a, a < 5 → ∀ b, b < 5 → a ≠ b → (TX9 a).2.1 ≠ (TX9 b).2.1 := by decide +kernel
theorem tyX9_ok : ∀ k, k < 5 → parseFieldDescriptor (TX9 k).2.2.1 = some (tyX9 k) := by decide +kernel
abbrev cX9_init : ByteArray := prog_11_method_1_code
def yX9_init : MethodName := ⟨RX9, "<init>", "()V"⟩
abbrev cX9_restart : ByteArray := prog_11_method_2_code
def yX9_restart : MethodName := ⟨RX9, "restart", "(IIZ)V"⟩
abbrev cX9_append : ByteArray := prog_11_method_3_code
def yX9_append : MethodName := ⟨RX9, "append", "(I)Z"⟩
abbrev cX9_isTrueOf : ByteArray := prog_11_method_4_code
def yX9_isTrueOf : MethodName := ⟨RX9, "isTrueOf", "(I)Z"⟩
def RX10 : String := "PostingPlanner"
def TX10 : u_T := fun k => match k with
  | 0 => ("PostingPlanner", "shelf", "LPostingPlanner$Shelf;", true)
  | 1 => ("PostingPlanner", "question", "LPostingPlanner$Question;", true)
  | 2 => ("PostingPlanner", "plan", "LPostingPlanner$Plan;", true)
  | _ => ("PostingPlanner", "run", "LPostingPlanner$Run;", true)
def tyX10 : Nat → FieldType := fun k => match k with
  | 0 => .object "PostingPlanner$Shelf"
  | 1 => .object "PostingPlanner$Question"
  | 2 => .object "PostingPlanner$Plan"
  | _ => .object "PostingPlanner$Run"
abbrev wsX100 : List Cond := u_ws RX10 TX10 4
theorem nmX10 : ∀ a, a < 4 → ∀ b, b < 4 → a ≠ b → (TX10 a).2.1 ≠ (TX10 b).2.1 := by decide +kernel
theorem tyX10_ok : ∀ k, k < 4 → parseFieldDescriptor (TX10 k).2.2.1 = some (tyX10 k) := by decide +kernel
abbrev cX10_init : ByteArray := prog_1_method_1_code
def yX10_init : MethodName := ⟨RX10, "<init>", "()V"⟩
abbrev cX10_put : ByteArray := prog_1_method_2_code
def yX10_put : MethodName := ⟨RX10, "put", "(II)Z"⟩
abbrev cX10_drop : ByteArray := prog_1_method_3_code
def yX10_drop : MethodName := ⟨RX10, "drop", "(I)Z"⟩
abbrev cX10_documents : ByteArray := prog_1_method_4_code
def yX10_documents : MethodName := ⟨RX10, "documents", "()I"⟩
abbrev cX10_count : ByteArray := prog_1_method_5_code
def yX10_count : MethodName := ⟨RX10, "count", "(I)I"⟩
abbrev cX10_ask : ByteArray := prog_1_method_6_code
def yX10_ask : MethodName := ⟨RX10, "ask", "(II)I"⟩
abbrev cX10_clause : ByteArray := prog_1_method_7_code
def yX10_clause : MethodName := ⟨RX10, "clause", "(IIZ)I"⟩
abbrev cX10_literal : ByteArray := prog_1_method_8_code
def yX10_literal : MethodName := ⟨RX10, "literal", "(IIZ)I"⟩
abbrev cX10_matches : ByteArray := prog_1_method_9_code
def yX10_matches : MethodName := ⟨RX10, "matches", "(I)Z"⟩
abbrev cX10_hits : ByteArray := prog_1_method_10_code
def yX10_hits : MethodName := ⟨RX10, "hits", "()I"⟩
abbrev cX10_planKind : ByteArray := prog_1_method_11_code
def yX10_planKind : MethodName := ⟨RX10, "planKind", "()I"⟩
abbrev cX10_planNeed : ByteArray := prog_1_method_12_code
def yX10_planNeed : MethodName := ⟨RX10, "planNeed", "()I"⟩
abbrev cX10_planSize : ByteArray := prog_1_method_13_code
def yX10_planSize : MethodName := ⟨RX10, "planSize", "()I"⟩
abbrev cX10_estimate : ByteArray := prog_1_method_14_code
def yX10_estimate : MethodName := ⟨RX10, "estimate", "()I"⟩
abbrev cX10_clauseAt : ByteArray := prog_1_method_15_code
def yX10_clauseAt : MethodName := ⟨RX10, "clauseAt", "(I)I"⟩
abbrev cX10_kindAt : ByteArray := prog_1_method_16_code
def yX10_kindAt : MethodName := ⟨RX10, "kindAt", "(I)I"⟩
abbrev cX10_estimateAt : ByteArray := prog_1_method_17_code
def yX10_estimateAt : MethodName := ⟨RX10, "estimateAt", "(I)I"⟩
abbrev cX10_literalAt : ByteArray := prog_1_method_18_code
def yX10_literalAt : MethodName := ⟨RX10, "literalAt", "(II)I"⟩
abbrev cX10_begin : ByteArray := prog_1_method_19_code
def yX10_begin : MethodName := ⟨RX10, "begin", "()I"⟩
abbrev cX10_leap : ByteArray := prog_1_method_20_code
def yX10_leap : MethodName := ⟨RX10, "leap", "(I)I"⟩
abbrev cX10_next : ByteArray := prog_1_method_21_code
def yX10_next : MethodName := ⟨RX10, "next", "()I"⟩
abbrev cX10_readings : ByteArray := prog_1_method_22_code
def yX10_readings : MethodName := ⟨RX10, "readings", "()I"⟩
abbrev cX10_checkDocument : ByteArray := prog_1_method_23_code
def yX10_checkDocument : MethodName := ⟨RX10, "checkDocument", "(I)V"⟩
abbrev cX10_checkWord : ByteArray := prog_1_method_24_code
def yX10_checkWord : MethodName := ⟨RX10, "checkWord", "(I)V"⟩
abbrev cX10_checkKindAndNeed : ByteArray := prog_1_method_25_code
def yX10_checkKindAndNeed : MethodName := ⟨RX10, "checkKindAndNeed", "(III)V"⟩
abbrev cX10_checkRun : ByteArray := prog_1_method_26_code
def yX10_checkRun : MethodName := ⟨RX10, "checkRun", "()V"⟩
abbrev cX10_isHit : ByteArray := prog_1_method_27_code
def yX10_isHit : MethodName := ⟨RX10, "isHit", "(I)Z"⟩
abbrev cX10_plannedClause : ByteArray := prog_1_method_28_code
def yX10_plannedClause : MethodName := ⟨RX10, "plannedClause", "(I)LPostingPlanner$PlannedClause;"⟩
abbrev cX10_codeOf : ByteArray := prog_1_method_29_code
def yX10_codeOf : MethodName := ⟨RX10, "codeOf", "(IZ)I"⟩
abbrev cX10_contraryOf : ByteArray := prog_1_method_30_code
def yX10_contraryOf : MethodName := ⟨RX10, "contraryOf", "(I)I"⟩
abbrev cX10_isLiteralTrue : ByteArray := prog_1_method_31_code
def yX10_isLiteralTrue : MethodName := ⟨RX10, "isLiteralTrue", "(II)Z"⟩
abbrev cX10_isEnough : ByteArray := prog_1_method_32_code
def yX10_isEnough : MethodName := ⟨RX10, "isEnough", "(IIII)Z"⟩
abbrev cX10_firstOf : ByteArray := prog_1_method_33_code
def yX10_firstOf : MethodName := ⟨RX10, "firstOf", "(JI)I"⟩
def RX11 : String := "PostingPlannerModel"
def TX11 : u_T := fun k => match k with
  | 0 => ("PostingPlannerModel", "there", "[Z", true)
  | 1 => ("PostingPlannerModel", "words", "[I", true)
  | 2 => ("PostingPlannerModel", "kind", "I", false)
  | 3 => ("PostingPlannerModel", "need", "I", false)
  | 4 => ("PostingPlannerModel", "clauses", "I", false)
  | 5 => ("PostingPlannerModel", "kinds", "[I", true)
  | 6 => ("PostingPlannerModel", "needs", "[I", true)
  | 7 => ("PostingPlannerModel", "negated", "[Z", true)
  | 8 => ("PostingPlannerModel", "sizes", "[I", true)
  | 9 => ("PostingPlannerModel", "literals", "[I", true)
  | 10 => ("PostingPlannerModel", "clauseKinds", "[I", true)
  | 11 => ("PostingPlannerModel", "clauseNeeds", "[I", true)
  | 12 => ("PostingPlannerModel", "clauseSizes", "[I", true)
  | 13 => ("PostingPlannerModel", "clauseLiterals", "[I", true)
  | 14 => ("PostingPlannerModel", "estimates", "[I", true)
  | 15 => ("PostingPlannerModel", "planKind", "I", false)
  | 16 => ("PostingPlannerModel", "planNeed", "I", false)
  | 17 => ("PostingPlannerModel", "planSize", "I", false)
  | 18 => ("PostingPlannerModel", "order", "[I", true)
  | 19 => ("PostingPlannerModel", "runs", "Z", false)
  | 20 => ("PostingPlannerModel", "runThere", "[Z", true)
  | 21 => ("PostingPlannerModel", "runWords", "[I", true)
  | 22 => ("PostingPlannerModel", "runKind", "I", false)
  | 23 => ("PostingPlannerModel", "runNeed", "I", false)
  | 24 => ("PostingPlannerModel", "runSize", "I", false)
  | 25 => ("PostingPlannerModel", "runKinds", "[I", true)
  | 26 => ("PostingPlannerModel", "runNeeds", "[I", true)
  | 27 => ("PostingPlannerModel", "runSizes", "[I", true)
  | 28 => ("PostingPlannerModel", "runLiterals", "[I", true)
  | 29 => ("PostingPlannerModel", "literalPlaces", "[I", true)
  | 30 => ("PostingPlannerModel", "clausePlaces", "[I", true)
  | 31 => ("PostingPlannerModel", "given", "I", false)
  | 32 => ("PostingPlannerModel", "isOver", "Z", false)
  | 33 => ("PostingPlannerModel", "readings", "I", false)
  | _ => ("PostingPlannerModel", "last", "I", false)
def tyX11 : Nat → FieldType := fun k => match k with
  | 0 => .array .boolean
  | 1 => .array .int
  | 2 => .int
  | 3 => .int
  | 4 => .int
  | 5 => .array .int
  | 6 => .array .int
  | 7 => .array .boolean
  | 8 => .array .int
  | 9 => .array .int
  | 10 => .array .int
  | 11 => .array .int
  | 12 => .array .int
  | 13 => .array .int
  | 14 => .array .int
  | 15 => .int
  | 16 => .int
  | 17 => .int
  | 18 => .array .int
  | 19 => .boolean
  | 20 => .array .boolean
  | 21 => .array .int
  | 22 => .int
  | 23 => .int
  | 24 => .int
  | 25 => .array .int
  | 26 => .array .int
  | 27 => .array .int
  | 28 => .array .int
  | 29 => .array .int
  | 30 => .array .int
  | 31 => .int
  | 32 => .boolean
  | 33 => .int
  | _ => .int
abbrev wsX110 : List Cond := u_ws RX11 TX11 35
theorem nmX11 : ∀ a, a < 35 → ∀ b, b < 35 → a ≠ b → (TX11 a).2.1 ≠ (TX11 b).2.1 := by decide +kernel
theorem tyX11_ok : ∀ k, k < 35 → parseFieldDescriptor (TX11 k).2.2.1 = some (tyX11 k) := by decide +kernel
abbrev cX11_init : ByteArray := prog_13_method_1_code
def yX11_init : MethodName := ⟨RX11, "<init>", "()V"⟩
abbrev cX11_thrown : ByteArray := prog_13_method_2_code
def yX11_thrown : MethodName := ⟨RX11, "thrown", "()I"⟩
abbrev cX11_in : ByteArray := prog_13_method_3_code
def yX11_in : MethodName := ⟨RX11, "in", "(III)Z"⟩
abbrev cX11_goes : ByteArray := prog_13_method_4_code
def yX11_goes : MethodName := ⟨RX11, "goes", "(ZZZ)Z"⟩
abbrev cX11_isDocument : ByteArray := prog_13_method_5_code
def yX11_isDocument : MethodName := ⟨RX11, "isDocument", "(I)Z"⟩
abbrev cX11_put : ByteArray := prog_13_method_6_code
def yX11_put : MethodName := ⟨RX11, "put", "(II)Z"⟩
abbrev cX11_drop : ByteArray := prog_13_method_7_code
def yX11_drop : MethodName := ⟨RX11, "drop", "(I)Z"⟩
abbrev cX11_many : ByteArray := prog_13_method_8_code
def yX11_many : MethodName := ⟨RX11, "many", "()I"⟩
abbrev cX11_documents : ByteArray := prog_13_method_9_code
def yX11_documents : MethodName := ⟨RX11, "documents", "()I"⟩
abbrev cX11_isTrue : ByteArray := prog_13_method_10_code
def yX11_isTrue : MethodName := ⟨RX11, "isTrue", "(II)Z"⟩
abbrev cX11_count0 : ByteArray := prog_13_method_11_code
def yX11_count0 : MethodName := ⟨RX11, "count0", "(I)I"⟩
abbrev cX11_count : ByteArray := prog_13_method_12_code
def yX11_count : MethodName := ⟨RX11, "count", "(I)I"⟩
abbrev cX11_fits : ByteArray := prog_13_method_13_code
def yX11_fits : MethodName := ⟨RX11, "fits", "(III)Z"⟩
abbrev cX11_ask : ByteArray := prog_13_method_14_code
def yX11_ask : MethodName := ⟨RX11, "ask", "(II)I"⟩
abbrev cX11_clause : ByteArray := prog_13_method_15_code
def yX11_clause : MethodName := ⟨RX11, "clause", "(IIZ)I"⟩
abbrev cX11_literal : ByteArray := prog_13_method_16_code
def yX11_literal : MethodName := ⟨RX11, "literal", "(IIZ)I"⟩
abbrev cX11_isBy : ByteArray := prog_13_method_17_code
def yX11_isBy : MethodName := ⟨RX11, "isBy", "(IIII)Z"⟩
abbrev cX11_isMatch : ByteArray := prog_13_method_18_code
def yX11_isMatch : MethodName := ⟨RX11, "isMatch", "(I)Z"⟩
abbrev cX11_matches : ByteArray := prog_13_method_19_code
def yX11_matches : MethodName := ⟨RX11, "matches", "(I)Z"⟩
abbrev cX11_hits : ByteArray := prog_13_method_20_code
def yX11_hits : MethodName := ⟨RX11, "hits", "()I"⟩
abbrev cX11_some : ByteArray := prog_13_method_21_code
def yX11_some : MethodName := ⟨RX11, "some", "(II)I"⟩
abbrev cX11_plainly : ByteArray := prog_13_method_22_code
def yX11_plainly : MethodName := ⟨RX11, "plainly", "(I)V"⟩
abbrev cX11_hasAhead : ByteArray := prog_13_method_23_code
def yX11_hasAhead : MethodName := ⟨RX11, "hasAhead", "(III)Z"⟩
abbrev cX11_thins : ByteArray := prog_13_method_24_code
def yX11_thins : MethodName := ⟨RX11, "thins", "(I)V"⟩
abbrev cX11_sorts : ByteArray := prog_13_method_25_code
def yX11_sorts : MethodName := ⟨RX11, "sorts", "(I)V"⟩
abbrev cX11_isAhead : ByteArray := prog_13_method_26_code
def yX11_isAhead : MethodName := ⟨RX11, "isAhead", "(II)Z"⟩
abbrev cX11_estimated : ByteArray := prog_13_method_27_code
def yX11_estimated : MethodName := ⟨RX11, "estimated", "(IIII)I"⟩
abbrev cX11_estimates : ByteArray := prog_13_method_28_code
def yX11_estimates : MethodName := ⟨RX11, "estimates", "(I)V"⟩
abbrev cX11_makes : ByteArray := prog_13_method_29_code
def yX11_makes : MethodName := ⟨RX11, "makes", "()V"⟩
abbrev cX11_planEstimate : ByteArray := prog_13_method_30_code
def yX11_planEstimate : MethodName := ⟨RX11, "planEstimate", "()I"⟩
abbrev cX11_planKind : ByteArray := prog_13_method_31_code
def yX11_planKind : MethodName := ⟨RX11, "planKind", "()I"⟩
abbrev cX11_planNeed : ByteArray := prog_13_method_32_code
def yX11_planNeed : MethodName := ⟨RX11, "planNeed", "()I"⟩
abbrev cX11_planSize : ByteArray := prog_13_method_33_code
def yX11_planSize : MethodName := ⟨RX11, "planSize", "()I"⟩
abbrev cX11_estimate : ByteArray := prog_13_method_34_code
def yX11_estimate : MethodName := ⟨RX11, "estimate", "()I"⟩
abbrev cX11_isPlace : ByteArray := prog_13_method_35_code
def yX11_isPlace : MethodName := ⟨RX11, "isPlace", "(I)Z"⟩
abbrev cX11_clauseAt : ByteArray := prog_13_method_36_code
def yX11_clauseAt : MethodName := ⟨RX11, "clauseAt", "(I)I"⟩
abbrev cX11_kindAt : ByteArray := prog_13_method_37_code
def yX11_kindAt : MethodName := ⟨RX11, "kindAt", "(I)I"⟩
abbrev cX11_estimateAt : ByteArray := prog_13_method_38_code
def yX11_estimateAt : MethodName := ⟨RX11, "estimateAt", "(I)I"⟩
abbrev cX11_literalAt : ByteArray := prog_13_method_39_code
def yX11_literalAt : MethodName := ⟨RX11, "literalAt", "(II)I"⟩
abbrev cX11_begin : ByteArray := prog_13_method_40_code
def yX11_begin : MethodName := ⟨RX11, "begin", "()I"⟩
abbrev cX11_seeksLiteral : ByteArray := prog_13_method_41_code
def yX11_seeksLiteral : MethodName := ⟨RX11, "seeksLiteral", "(II)V"⟩
abbrev cX11_nthLiteral : ByteArray := prog_13_method_42_code
def yX11_nthLiteral : MethodName := ⟨RX11, "nthLiteral", "(III)I"⟩
abbrev cX11_seeksClause : ByteArray := prog_13_method_43_code
def yX11_seeksClause : MethodName := ⟨RX11, "seeksClause", "(II)V"⟩
abbrev cX11_nthClause : ByteArray := prog_13_method_44_code
def yX11_nthClause : MethodName := ⟨RX11, "nthClause", "(I)I"⟩
abbrev cX11_seeksPlan : ByteArray := prog_13_method_45_code
def yX11_seeksPlan : MethodName := ⟨RX11, "seeksPlan", "(I)I"⟩
abbrev cX11_leaps : ByteArray := prog_13_method_46_code
def yX11_leaps : MethodName := ⟨RX11, "leaps", "(I)I"⟩
abbrev cX11_leap : ByteArray := prog_13_method_47_code
def yX11_leap : MethodName := ⟨RX11, "leap", "(I)I"⟩
abbrev cX11_next : ByteArray := prog_13_method_48_code
def yX11_next : MethodName := ⟨RX11, "next", "()I"⟩
abbrev cX11_readings : ByteArray := prog_13_method_49_code
def yX11_readings : MethodName := ⟨RX11, "readings", "()I"⟩
def RJx145de : String := "java/io/Serializable"
def TJx145de : u_T := fun k => match k with
  | _ => ("", "", "", false)
def tyJx145de : Nat → FieldType := fun k => match k with
  | _ => .int
abbrev wsJx145de0 : List Cond := u_ws RJx145de TJx145de 0
theorem nmJx145de : ∀ a, a < 0 → ∀ b, b < 0 → a ≠ b → (TJx145de a).2.1 ≠ (TJx145de b).2.1 := by decide +kernel
theorem tyJx145de_ok : ∀ k, k < 0 → parseFieldDescriptor (TJx145de k).2.2.1 = some (tyJx145de k) := by decide +kernel
def RJ13 : String := "java/lang/Long"
def TJ13 : u_T := fun k => match k with
  | _ => ("", "", "", false)
def tyJ13 : Nat → FieldType := fun k => match k with
  | _ => .int
abbrev wsJ130 : List Cond := u_ws RJ13 TJ13 0
theorem nmJ13 : ∀ a, a < 0 → ∀ b, b < 0 → a ≠ b → (TJ13 a).2.1 ≠ (TJ13 b).2.1 := by decide +kernel
theorem tyJ13_ok : ∀ k, k < 0 → parseFieldDescriptor (TJ13 k).2.2.1 = some (tyJ13 k) := by decide +kernel
abbrev cJ13_bitCount_95d88 : ByteArray := prog_18_method_50_code
def yJ13_bitCount_95d88 : MethodName := ⟨RJ13, "bitCount", "(J)I"⟩
def RJ9 : String := "java/lang/Math"
def TJ9 : u_T := fun k => match k with
  | _ => ("", "", "", false)
def tyJ9 : Nat → FieldType := fun k => match k with
  | _ => .int
abbrev wsJ90 : List Cond := u_ws RJ9 TJ9 0
theorem nmJ9 : ∀ a, a < 0 → ∀ b, b < 0 → a ≠ b → (TJ9 a).2.1 ≠ (TJ9 b).2.1 := by decide +kernel
theorem tyJ9_ok : ∀ k, k < 0 → parseFieldDescriptor (TJ9 k).2.2.1 = some (tyJ9 k) := by decide +kernel
abbrev cJ9_max_7cf53 : ByteArray := prog_19_method_65_code
def yJ9_max_7cf53 : MethodName := ⟨RJ9, "max", "(II)I"⟩
abbrev cJ9_min_7cf53 : ByteArray := prog_19_method_69_code
def yJ9_min_7cf53 : MethodName := ⟨RJ9, "min", "(II)I"⟩
def RJ0 : String := "java/lang/String"
def TJ0 : u_T := fun k => match k with
  | _ => ("", "", "", false)
def tyJ0 : Nat → FieldType := fun k => match k with
  | _ => .int
abbrev wsJ00 : List Cond := u_ws RJ0 TJ0 0
theorem nmJ0 : ∀ a, a < 0 → ∀ b, b < 0 → a ≠ b → (TJ0 a).2.1 ≠ (TJ0 b).2.1 := by decide +kernel
theorem tyJ0_ok : ∀ k, k < 0 → parseFieldDescriptor (TJ0 k).2.2.1 = some (tyJ0 k) := by decide +kernel
def RJ7 : String := "java/util/Arrays"
def TJ7 : u_T := fun k => match k with
  | _ => ("", "", "", false)
def tyJ7 : Nat → FieldType := fun k => match k with
  | _ => .int
abbrev wsJ70 : List Cond := u_ws RJ7 TJ7 0
theorem nmJ7 : ∀ a, a < 0 → ∀ b, b < 0 → a ≠ b → (TJ7 a).2.1 ≠ (TJ7 b).2.1 := by decide +kernel
theorem tyJ7_ok : ∀ k, k < 0 → parseFieldDescriptor (TJ7 k).2.2.1 = some (tyJ7 k) := by decide +kernel
abbrev cJ7_fill_53178 : ByteArray := prog_23_method_103_code
def yJ7_fill_53178 : MethodName := ⟨RJ7, "fill", "([II)V"⟩
def RL : String := "PostingPlannerLaw"
abbrev cL_put : ByteArray := method_3_code
def yL_put : MethodName := ⟨RL, "put", "(LPostingPlanner;II[J)I"⟩
abbrev cL_drop : ByteArray := method_4_code
def yL_drop : MethodName := ⟨RL, "drop", "(LPostingPlanner;I[J)I"⟩
abbrev cL_count : ByteArray := method_5_code
def yL_count : MethodName := ⟨RL, "count", "(LPostingPlanner;I[J)I"⟩
abbrev cL_ask : ByteArray := method_6_code
def yL_ask : MethodName := ⟨RL, "ask", "(LPostingPlanner;II[J)I"⟩
abbrev cL_clause : ByteArray := method_7_code
def yL_clause : MethodName := ⟨RL, "clause", "(LPostingPlanner;IIZ[J)I"⟩
abbrev cL_literal : ByteArray := method_8_code
def yL_literal : MethodName := ⟨RL, "literal", "(LPostingPlanner;IIZ[J)I"⟩
abbrev cL_matches : ByteArray := method_9_code
def yL_matches : MethodName := ⟨RL, "matches", "(LPostingPlanner;I[J)I"⟩
abbrev cL_clauseAt : ByteArray := method_10_code
def yL_clauseAt : MethodName := ⟨RL, "clauseAt", "(LPostingPlanner;I[J)I"⟩
abbrev cL_kindAt : ByteArray := method_11_code
def yL_kindAt : MethodName := ⟨RL, "kindAt", "(LPostingPlanner;I[J)I"⟩
abbrev cL_estimateAt : ByteArray := method_12_code
def yL_estimateAt : MethodName := ⟨RL, "estimateAt", "(LPostingPlanner;I[J)I"⟩
abbrev cL_literalAt : ByteArray := method_13_code
def yL_literalAt : MethodName := ⟨RL, "literalAt", "(LPostingPlanner;II[J)I"⟩
abbrev cL_leap : ByteArray := method_14_code
def yL_leap : MethodName := ⟨RL, "leap", "(LPostingPlanner;I[J)I"⟩
abbrev cL_next : ByteArray := method_15_code
def yL_next : MethodName := ⟨RL, "next", "(LPostingPlanner;[J)I"⟩
abbrev cL_readings : ByteArray := method_16_code
def yL_readings : MethodName := ⟨RL, "readings", "(LPostingPlanner;[J)I"⟩
abbrev cL_law : ByteArray := code
def yL_law : MethodName := ⟨RL, "law", "([I)Z"⟩
def wsX1_init : List Cond := .code yX1_init cX1_init 1 none :: ([.methodLink RX1 1 objectInit, .instanceMethod objectInit, .code objectInit ⟨#[0xb1]⟩ 1 none])
def wsX0_init : List Cond := .code yX0_init cX0_init 1 none :: ([.classLink RX0 4 RX1, .fieldLink RX0 9 "PostingPlanner$Group" "parts" "[LPostingPlanner$Part;", .instanceMethod yX1_init, .initialized RX1, .code yX1_init cX1_init 1 none, .methodLink RX1 1 objectInit, .instanceMethod objectInit, .code objectInit ⟨#[0xb1]⟩ 1 none] ++ wsX20 ++ wsX30)
def wsX0_restart : List Cond := .code yX0_restart cX0_restart 5 none :: ([.fieldLink RX0 15 "PostingPlanner$Group" "kind" "I", .fieldLink RX0 19 "PostingPlanner$Group" "need" "I", .fieldLink RX0 22 "PostingPlanner$Group" "size" "I", .fieldLink RX0 25 "PostingPlanner$Group" "there" "J", .fieldLink RX0 29 "PostingPlanner$Group" "place" "I", .sameField "PostingPlanner$Group" "PostingPlanner$Part" "place" "I"] ++ wsX20 ++ wsX30 ++ wsX40)
def wsX0_partAt : List Cond := .code yX0_partAt cX0_partAt 2 (some (.object "PostingPlanner$Part")) :: ([.fieldLink RX0 22 "PostingPlanner$Group" "size" "I", .fieldLink RX0 9 "PostingPlanner$Group" "parts" "[LPostingPlanner$Part;"] ++ wsX20 ++ wsX30)
def wsX0_hasRank : List Cond := .code yX0_hasRank cX0_hasRank 4 (some .boolean) :: ([.fieldLink RX0 22 "PostingPlanner$Group" "size" "I", .fieldLink RX0 36 "PostingPlanner$Part" "rank" "I", .methodLink RX0 32 ⟨"PostingPlanner$Group", "partAt", "(I)LPostingPlanner$Part;"⟩, .sameMethod "PostingPlanner$Group" "PostingPlanner$Group" "partAt" "(I)LPostingPlanner$Part;", .selects RX2 ⟨"PostingPlanner$Group", "partAt", "(I)LPostingPlanner$Part;"⟩ yX0_partAt, .instanceMethod yX0_partAt, .initialized RX0, .code yX0_partAt cX0_partAt 2 (some (.object "PostingPlanner$Part")), .fieldLink RX0 9 "PostingPlanner$Group" "parts" "[LPostingPlanner$Part;", .selects RX3 ⟨"PostingPlanner$Group", "partAt", "(I)LPostingPlanner$Part;"⟩ yX0_partAt] ++ wsX20 ++ wsX30 ++ wsX40)
def wsX0_keep : List Cond := .code yX0_keep cX0_keep 2 none :: ([.fieldLink RX0 22 "PostingPlanner$Group" "size" "I", .fieldLink RX0 9 "PostingPlanner$Group" "parts" "[LPostingPlanner$Part;"] ++ wsX20 ++ wsX30)
def wsX0_isFixed : List Cond := .code yX0_isFixed cX0_isFixed 1 (some .boolean) :: ([.fieldLink RX0 15 "PostingPlanner$Group" "kind" "I"] ++ wsX20 ++ wsX30)
def wsX0_fix : List Cond := .code yX0_fix cX0_fix 2 none :: ([.fieldLink RX0 15 "PostingPlanner$Group" "kind" "I", .fieldLink RX0 22 "PostingPlanner$Group" "size" "I"] ++ wsX20 ++ wsX30)
def wsX0_settleSome : List Cond := .code yX0_settleSome cX0_settleSome 2 none :: ([.fieldLink RX0 15 "PostingPlanner$Group" "kind" "I", .fieldLink RX0 19 "PostingPlanner$Group" "need" "I", .methodLink RX0 39 ⟨"PostingPlanner$Group", "fix", "(I)V"⟩, .sameMethod "PostingPlanner$Group" "PostingPlanner$Group" "fix" "(I)V", .selects RX2 ⟨"PostingPlanner$Group", "fix", "(I)V"⟩ yX0_fix, .instanceMethod yX0_fix, .initialized RX0, .code yX0_fix cX0_fix 2 none, .fieldLink RX0 22 "PostingPlanner$Group" "size" "I", .selects RX3 ⟨"PostingPlanner$Group", "fix", "(I)V"⟩ yX0_fix] ++ wsX20 ++ wsX30)
def wsX0_settleEmpty : List Cond := .code yX0_settleEmpty cX0_settleEmpty 1 none :: ([.fieldLink RX0 22 "PostingPlanner$Group" "size" "I", .fieldLink RX0 15 "PostingPlanner$Group" "kind" "I", .methodLink RX0 39 ⟨"PostingPlanner$Group", "fix", "(I)V"⟩, .sameMethod "PostingPlanner$Group" "PostingPlanner$Group" "fix" "(I)V", .selects RX2 ⟨"PostingPlanner$Group", "fix", "(I)V"⟩ yX0_fix, .instanceMethod yX0_fix, .initialized RX0, .code yX0_fix cX0_fix 2 none, .selects RX3 ⟨"PostingPlanner$Group", "fix", "(I)V"⟩ yX0_fix] ++ wsX20 ++ wsX30)
def wsJ13_bitCount_95d88 : List Cond := .code yJ13_bitCount_95d88 cJ13_bitCount_95d88 2 (some .int) :: ([.constantLong RJ13 314 (6148914691236517205), .constantLong RJ13 316 (3689348814741910323), .constantLong RJ13 318 (1085102592571150095)])
def wsX0_leastEstimate : List Cond := .code yX0_leastEstimate cX0_leastEstimate 5 (some .int) :: ([.fieldLink RX0 22 "PostingPlanner$Group" "size" "I", .fieldLink RX0 66 "PostingPlanner$Part" "estimate" "I", .methodLink RX0 60 Lib.Math.min.name, .static Lib.Math.min.name, .initialized "java/lang/Math", .code Lib.Math.min.name Lib.Math.min.code 2 (some .int), .methodLink RX0 32 ⟨"PostingPlanner$Group", "partAt", "(I)LPostingPlanner$Part;"⟩, .sameMethod "PostingPlanner$Group" "PostingPlanner$Group" "partAt" "(I)LPostingPlanner$Part;", .selects RX2 ⟨"PostingPlanner$Group", "partAt", "(I)LPostingPlanner$Part;"⟩ yX0_partAt, .instanceMethod yX0_partAt, .initialized RX0, .code yX0_partAt cX0_partAt 2 (some (.object "PostingPlanner$Part")), .fieldLink RX0 9 "PostingPlanner$Group" "parts" "[LPostingPlanner$Part;", .selects RX3 ⟨"PostingPlanner$Group", "partAt", "(I)LPostingPlanner$Part;"⟩ yX0_partAt] ++ wsX20 ++ wsX30 ++ wsX40)
def wsX0_sumOfEstimates : List Cond := .code yX0_sumOfEstimates cX0_sumOfEstimates 4 (some .int) :: ([.fieldLink RX0 22 "PostingPlanner$Group" "size" "I", .fieldLink RX0 66 "PostingPlanner$Part" "estimate" "I", .methodLink RX0 32 ⟨"PostingPlanner$Group", "partAt", "(I)LPostingPlanner$Part;"⟩, .sameMethod "PostingPlanner$Group" "PostingPlanner$Group" "partAt" "(I)LPostingPlanner$Part;", .selects RX2 ⟨"PostingPlanner$Group", "partAt", "(I)LPostingPlanner$Part;"⟩ yX0_partAt, .instanceMethod yX0_partAt, .initialized RX0, .code yX0_partAt cX0_partAt 2 (some (.object "PostingPlanner$Part")), .fieldLink RX0 9 "PostingPlanner$Group" "parts" "[LPostingPlanner$Part;", .selects RX3 ⟨"PostingPlanner$Group", "partAt", "(I)LPostingPlanner$Part;"⟩ yX0_partAt] ++ wsX20 ++ wsX30 ++ wsX40)
def wsX0_appraise_r1 : List Cond := [Cond.fieldLink RX0 25 "PostingPlanner$Group" "there" "J", Cond.fieldLink RX0 15 "PostingPlanner$Group" "kind" "I", Cond.fieldLink RX0 53 "PostingPlanner$Group" "estimate" "I", Cond.sameField "PostingPlanner$Group" "PostingPlanner$Part" "estimate" "I", Cond.methodLink RX0 60 Lib.Math.min.name, Cond.static Lib.Math.min.name, Cond.initialized "java/lang/Math", Cond.code Lib.Math.min.name Lib.Math.min.code 2 (some .int), Cond.fieldLink RX0 19 "PostingPlanner$Group" "need" "I", Cond.methodLink RX0 43 yJ13_bitCount_95d88, Cond.static yJ13_bitCount_95d88, Cond.initialized RJ13, Cond.code yJ13_bitCount_95d88 cJ13_bitCount_95d88 2 (some .int), Cond.constantLong RJ13 314 (6148914691236517205), Cond.constantLong RJ13 316 (3689348814741910323), Cond.constantLong RJ13 318 (1085102592571150095), Cond.methodLink RX0 49 ⟨"PostingPlanner$Group", "leastEstimate", "(I)I"⟩, Cond.sameMethod "PostingPlanner$Group" "PostingPlanner$Group" "leastEstimate" "(I)I", Cond.selects RX2 ⟨"PostingPlanner$Group", "leastEstimate", "(I)I"⟩ yX0_leastEstimate, Cond.instanceMethod yX0_leastEstimate, Cond.initialized RX0, Cond.code yX0_leastEstimate cX0_leastEstimate 5 (some .int), Cond.fieldLink RX0 22 "PostingPlanner$Group" "size" "I", Cond.fieldLink RX0 66 "PostingPlanner$Part" "estimate" "I"]
def wsX0_appraise_r2 : List Cond := [Cond.methodLink RX0 32 ⟨"PostingPlanner$Group", "partAt", "(I)LPostingPlanner$Part;"⟩, Cond.sameMethod "PostingPlanner$Group" "PostingPlanner$Group" "partAt" "(I)LPostingPlanner$Part;", Cond.selects RX2 ⟨"PostingPlanner$Group", "partAt", "(I)LPostingPlanner$Part;"⟩ yX0_partAt, Cond.instanceMethod yX0_partAt, Cond.code yX0_partAt cX0_partAt 2 (some (.object "PostingPlanner$Part")), Cond.fieldLink RX0 9 "PostingPlanner$Group" "parts" "[LPostingPlanner$Part;", Cond.selects RX3 ⟨"PostingPlanner$Group", "partAt", "(I)LPostingPlanner$Part;"⟩ yX0_partAt, Cond.selects RX3 ⟨"PostingPlanner$Group", "leastEstimate", "(I)I"⟩ yX0_leastEstimate, Cond.methodLink RX0 56 ⟨"PostingPlanner$Group", "sumOfEstimates", "()I"⟩, Cond.sameMethod "PostingPlanner$Group" "PostingPlanner$Group" "sumOfEstimates" "()I", Cond.selects RX2 ⟨"PostingPlanner$Group", "sumOfEstimates", "()I"⟩ yX0_sumOfEstimates, Cond.instanceMethod yX0_sumOfEstimates, Cond.code yX0_sumOfEstimates cX0_sumOfEstimates 4 (some .int), Cond.selects RX3 ⟨"PostingPlanner$Group", "sumOfEstimates", "()I"⟩ yX0_sumOfEstimates]
def wsX0_appraise : List Cond := .code yX0_appraise cX0_appraise 2 none :: ((wsX0_appraise_r1 ++ wsX0_appraise_r2) ++ wsX20 ++ wsX30 ++ wsX40)
def wsX0_isBefore : List Cond := .code yX0_isBefore cX0_isBefore 3 (some .boolean) :: ([.fieldLink RX0 66 "PostingPlanner$Part" "estimate" "I", .fieldLink RX0 36 "PostingPlanner$Part" "rank" "I"] ++ wsX20 ++ wsX30 ++ wsX40)
def wsX0_order : List Cond := .code yX0_order cX0_order 4 none :: ([.fieldLink RX0 15 "PostingPlanner$Group" "kind" "I", .fieldLink RX0 22 "PostingPlanner$Group" "size" "I", .fieldLink RX0 9 "PostingPlanner$Group" "parts" "[LPostingPlanner$Part;", .methodLink RX0 67 ⟨"PostingPlanner$Group", "isBefore", "(LPostingPlanner$Part;LPostingPlanner$Part;)Z"⟩, .sameMethod "PostingPlanner$Group" "PostingPlanner$Group" "isBefore" "(LPostingPlanner$Part;LPostingPlanner$Part;)Z", .selects RX2 ⟨"PostingPlanner$Group", "isBefore", "(LPostingPlanner$Part;LPostingPlanner$Part;)Z"⟩ yX0_isBefore, .instanceMethod yX0_isBefore, .initialized RX0, .code yX0_isBefore cX0_isBefore 3 (some .boolean), .fieldLink RX0 66 "PostingPlanner$Part" "estimate" "I", .fieldLink RX0 36 "PostingPlanner$Part" "rank" "I", .selects RX3 ⟨"PostingPlanner$Group", "isBefore", "(LPostingPlanner$Part;LPostingPlanner$Part;)Z"⟩ yX0_isBefore] ++ wsX20 ++ wsX30 ++ wsX40)
def wsX10_firstOf : List Cond := .code yX10_firstOf cX10_firstOf 4 (some .int) :: ([])
def wsX4_cost : List Cond := .code yX4_cost cX4_cost 4 (some .int) :: ([.fieldLink RX4 22 "PostingPlanner$PlannedLiteral" "rank" "I", .sameField "PostingPlanner$PlannedLiteral" "PostingPlanner$Part" "rank" "I", .fieldLink RX4 15 "PostingPlanner$PlannedLiteral" "there" "J", .fieldLink RX4 35 "PostingPlanner$PlannedLiteral" "place" "I", .sameField "PostingPlanner$PlannedLiteral" "PostingPlanner$Part" "place" "I", .methodLink RX4 26 yJ13_bitCount_95d88, .static yJ13_bitCount_95d88, .initialized RJ13, .code yJ13_bitCount_95d88 cJ13_bitCount_95d88 2 (some .int), .constantLong RJ13 314 (6148914691236517205), .constantLong RJ13 316 (3689348814741910323), .constantLong RJ13 318 (1085102592571150095)] ++ wsX20 ++ wsX30 ++ wsX40)
def wsX4_seek : List Cond := .code yX4_seek cX4_seek 3 (some .int) :: ([.fieldLink RX4 35 "PostingPlanner$PlannedLiteral" "place" "I", .sameField "PostingPlanner$PlannedLiteral" "PostingPlanner$Part" "place" "I", .fieldLink RX4 19 "PostingPlanner$PlannedLiteral" "truths" "J", .fieldLink RX4 9 "PostingPlanner$PlannedLiteral" "tally" "LPostingPlanner$Tally;", .fieldLink RX4 42 "PostingPlanner$Tally" "sum" "I", .static yX10_firstOf, .initialized RX10, .code yX10_firstOf cX10_firstOf 4 (some .int), .methodLink RX4 47 yX4_cost, .instanceMethod yX4_cost, .selects RX4 yX4_cost yX4_cost, .initialized RX4, .code yX4_cost cX4_cost 4 (some .int), .fieldLink RX4 22 "PostingPlanner$PlannedLiteral" "rank" "I", .sameField "PostingPlanner$PlannedLiteral" "PostingPlanner$Part" "rank" "I", .fieldLink RX4 15 "PostingPlanner$PlannedLiteral" "there" "J", .methodLink RX4 26 yJ13_bitCount_95d88, .static yJ13_bitCount_95d88, .initialized RJ13, .code yJ13_bitCount_95d88 cJ13_bitCount_95d88 2 (some .int), .constantLong RJ13 314 (6148914691236517205), .constantLong RJ13 316 (3689348814741910323), .constantLong RJ13 318 (1085102592571150095)] ++ wsX20 ++ wsX30 ++ wsX40 ++ wsX80)
def wsX0_placesUpTo : List Cond := .code yX0_placesUpTo cX0_placesUpTo 5 (some .int) :: ([.fieldLink RX0 22 "PostingPlanner$Group" "size" "I", .fieldLink RX0 90 "PostingPlanner$Part" "place" "I", .methodLink RX0 32 ⟨"PostingPlanner$Group", "partAt", "(I)LPostingPlanner$Part;"⟩, .sameMethod "PostingPlanner$Group" "PostingPlanner$Group" "partAt" "(I)LPostingPlanner$Part;", .selects RX2 ⟨"PostingPlanner$Group", "partAt", "(I)LPostingPlanner$Part;"⟩ yX0_partAt, .instanceMethod yX0_partAt, .initialized RX0, .code yX0_partAt cX0_partAt 2 (some (.object "PostingPlanner$Part")), .fieldLink RX0 9 "PostingPlanner$Group" "parts" "[LPostingPlanner$Part;", .selects RX3 ⟨"PostingPlanner$Group", "partAt", "(I)LPostingPlanner$Part;"⟩ yX0_partAt] ++ wsX20 ++ wsX30 ++ wsX40)
def wsX0_neededPlace : List Cond := .code yX0_neededPlace cX0_neededPlace 4 (some .int) :: ([.fieldLink RX0 22 "PostingPlanner$Group" "size" "I", .fieldLink RX0 90 "PostingPlanner$Part" "place" "I", .fieldLink RX0 19 "PostingPlanner$Group" "need" "I", .methodLink RX0 32 ⟨"PostingPlanner$Group", "partAt", "(I)LPostingPlanner$Part;"⟩, .sameMethod "PostingPlanner$Group" "PostingPlanner$Group" "partAt" "(I)LPostingPlanner$Part;", .selects RX2 ⟨"PostingPlanner$Group", "partAt", "(I)LPostingPlanner$Part;"⟩ yX0_partAt, .instanceMethod yX0_partAt, .initialized RX0, .code yX0_partAt cX0_partAt 2 (some (.object "PostingPlanner$Part")), .fieldLink RX0 9 "PostingPlanner$Group" "parts" "[LPostingPlanner$Part;", .selects RX3 ⟨"PostingPlanner$Group", "partAt", "(I)LPostingPlanner$Part;"⟩ yX0_partAt, .methodLink RX0 91 ⟨"PostingPlanner$Group", "placesUpTo", "(I)I"⟩, .sameMethod "PostingPlanner$Group" "PostingPlanner$Group" "placesUpTo" "(I)I", .selects RX2 ⟨"PostingPlanner$Group", "placesUpTo", "(I)I"⟩ yX0_placesUpTo, .instanceMethod yX0_placesUpTo, .code yX0_placesUpTo cX0_placesUpTo 5 (some .int), .selects RX3 ⟨"PostingPlanner$Group", "placesUpTo", "(I)I"⟩ yX0_placesUpTo] ++ wsX20 ++ wsX30 ++ wsX40)
def wsX0_seek_r1 : List Cond := [Cond.fieldLink RX0 29 "PostingPlanner$Group" "place" "I", Cond.sameField "PostingPlanner$Group" "PostingPlanner$Part" "place" "I", Cond.fieldLink RX0 15 "PostingPlanner$Group" "kind" "I", Cond.fieldLink RX0 25 "PostingPlanner$Group" "there" "J", Cond.methodLink RX0 71 ⟨"PostingPlanner$Group", "seekAll", "(II)I"⟩, Cond.sameMethod "PostingPlanner$Group" "PostingPlanner$Group" "seekAll" "(II)I", Cond.selects RX2 ⟨"PostingPlanner$Group", "seekAll", "(II)I"⟩ yX0_seekAll, Cond.instanceMethod yX0_seekAll, Cond.initialized RX0, Cond.selects RX3 ⟨"PostingPlanner$Group", "seekAll", "(II)I"⟩ yX0_seekAll, Cond.methodLink RX0 74 ⟨"PostingPlanner$Group", "seekAny", "(II)I"⟩, Cond.sameMethod "PostingPlanner$Group" "PostingPlanner$Group" "seekAny" "(II)I", Cond.selects RX2 ⟨"PostingPlanner$Group", "seekAny", "(II)I"⟩ yX0_seekAny, Cond.instanceMethod yX0_seekAny, Cond.selects RX3 ⟨"PostingPlanner$Group", "seekAny", "(II)I"⟩ yX0_seekAny, Cond.methodLink RX0 77 ⟨"PostingPlanner$Group", "seekSome", "(II)I"⟩, Cond.sameMethod "PostingPlanner$Group" "PostingPlanner$Group" "seekSome" "(II)I", Cond.selects RX2 ⟨"PostingPlanner$Group", "seekSome", "(II)I"⟩ yX0_seekSome, Cond.instanceMethod yX0_seekSome, Cond.selects RX3 ⟨"PostingPlanner$Group", "seekSome", "(II)I"⟩ yX0_seekSome, Cond.static yX10_firstOf, Cond.initialized RX10, Cond.code yX10_firstOf cX10_firstOf 4 (some .int), Cond.code yX0_seekAll cX0_seekAll 8 (some .int)]
def wsX0_seek_r2 : List Cond := [Cond.fieldLink RX0 22 "PostingPlanner$Group" "size" "I", Cond.methodLink RX0 32 ⟨"PostingPlanner$Group", "partAt", "(I)LPostingPlanner$Part;"⟩, Cond.sameMethod "PostingPlanner$Group" "PostingPlanner$Group" "partAt" "(I)LPostingPlanner$Part;", Cond.selects RX2 ⟨"PostingPlanner$Group", "partAt", "(I)LPostingPlanner$Part;"⟩ yX0_partAt, Cond.instanceMethod yX0_partAt, Cond.code yX0_partAt cX0_partAt 2 (some (.object "PostingPlanner$Part")), Cond.fieldLink RX0 9 "PostingPlanner$Group" "parts" "[LPostingPlanner$Part;", Cond.selects RX3 ⟨"PostingPlanner$Group", "partAt", "(I)LPostingPlanner$Part;"⟩ yX0_partAt, Cond.methodLink RX0 84 ⟨"PostingPlanner$Part", "seek", "(II)I"⟩, Cond.sameMethod "PostingPlanner$Part" "PostingPlanner$Part" "seek" "(II)I", Cond.selects RX2 ⟨"PostingPlanner$Part", "seek", "(II)I"⟩ yX0_seek, Cond.instanceMethod yX0_seek, Cond.selects RX3 ⟨"PostingPlanner$Part", "seek", "(II)I"⟩ yX0_seek, Cond.selects RX4 ⟨"PostingPlanner$Part", "seek", "(II)I"⟩ yX4_seek, Cond.instanceMethod yX4_seek, Cond.initialized RX4, Cond.code yX4_seek cX4_seek 3 (some .int), Cond.fieldLink RX4 35 "PostingPlanner$PlannedLiteral" "place" "I", Cond.sameField "PostingPlanner$PlannedLiteral" "PostingPlanner$Part" "place" "I", Cond.fieldLink RX4 19 "PostingPlanner$PlannedLiteral" "truths" "J", Cond.fieldLink RX4 9 "PostingPlanner$PlannedLiteral" "tally" "LPostingPlanner$Tally;", Cond.fieldLink RX4 42 "PostingPlanner$Tally" "sum" "I", Cond.methodLink RX4 47 yX4_cost, Cond.instanceMethod yX4_cost]
def wsX0_seek_r3 : List Cond := [Cond.selects RX4 yX4_cost yX4_cost, Cond.code yX4_cost cX4_cost 4 (some .int), Cond.fieldLink RX4 22 "PostingPlanner$PlannedLiteral" "rank" "I", Cond.sameField "PostingPlanner$PlannedLiteral" "PostingPlanner$Part" "rank" "I", Cond.fieldLink RX4 15 "PostingPlanner$PlannedLiteral" "there" "J", Cond.methodLink RX4 26 yJ13_bitCount_95d88, Cond.static yJ13_bitCount_95d88, Cond.initialized RJ13, Cond.code yJ13_bitCount_95d88 cJ13_bitCount_95d88 2 (some .int), Cond.constantLong RJ13 314 (6148914691236517205), Cond.constantLong RJ13 316 (3689348814741910323), Cond.constantLong RJ13 318 (1085102592571150095), Cond.code yX0_seekAny cX0_seekAny 6 (some .int), Cond.methodLink RX0 60 Lib.Math.min.name, Cond.static Lib.Math.min.name, Cond.initialized "java/lang/Math", Cond.code Lib.Math.min.name Lib.Math.min.code 2 (some .int), Cond.code yX0_seekSome cX0_seekSome 6 (some .int), Cond.methodLink RX0 87 ⟨"PostingPlanner$Group", "neededPlace", "()I"⟩, Cond.sameMethod "PostingPlanner$Group" "PostingPlanner$Group" "neededPlace" "()I", Cond.selects RX2 ⟨"PostingPlanner$Group", "neededPlace", "()I"⟩ yX0_neededPlace, Cond.instanceMethod yX0_neededPlace, Cond.code yX0_neededPlace cX0_neededPlace 4 (some .int), Cond.fieldLink RX0 90 "PostingPlanner$Part" "place" "I"]
def wsX0_seek_r4 : List Cond := [Cond.fieldLink RX0 19 "PostingPlanner$Group" "need" "I", Cond.methodLink RX0 91 ⟨"PostingPlanner$Group", "placesUpTo", "(I)I"⟩, Cond.sameMethod "PostingPlanner$Group" "PostingPlanner$Group" "placesUpTo" "(I)I", Cond.selects RX2 ⟨"PostingPlanner$Group", "placesUpTo", "(I)I"⟩ yX0_placesUpTo, Cond.instanceMethod yX0_placesUpTo, Cond.code yX0_placesUpTo cX0_placesUpTo 5 (some .int), Cond.selects RX3 ⟨"PostingPlanner$Group", "placesUpTo", "(I)I"⟩ yX0_placesUpTo, Cond.selects RX3 ⟨"PostingPlanner$Group", "neededPlace", "()I"⟩ yX0_neededPlace]
def wsX0_seek : List Cond := .code yX0_seek cX0_seek 3 (some .int) :: ((wsX0_seek_r1 ++ (wsX0_seek_r2 ++ (wsX0_seek_r3 ++ wsX0_seek_r4))) ++ wsX20 ++ wsX30 ++ wsX40 ++ wsX80)
def wsX0_seekAll_r1 : List Cond := [Cond.fieldLink RX0 22 "PostingPlanner$Group" "size" "I", Cond.methodLink RX0 32 ⟨"PostingPlanner$Group", "partAt", "(I)LPostingPlanner$Part;"⟩, Cond.sameMethod "PostingPlanner$Group" "PostingPlanner$Group" "partAt" "(I)LPostingPlanner$Part;", Cond.selects RX2 ⟨"PostingPlanner$Group", "partAt", "(I)LPostingPlanner$Part;"⟩ yX0_partAt, Cond.instanceMethod yX0_partAt, Cond.initialized RX0, Cond.code yX0_partAt cX0_partAt 2 (some (.object "PostingPlanner$Part")), Cond.fieldLink RX0 9 "PostingPlanner$Group" "parts" "[LPostingPlanner$Part;", Cond.selects RX3 ⟨"PostingPlanner$Group", "partAt", "(I)LPostingPlanner$Part;"⟩ yX0_partAt, Cond.methodLink RX0 84 ⟨"PostingPlanner$Part", "seek", "(II)I"⟩, Cond.sameMethod "PostingPlanner$Part" "PostingPlanner$Part" "seek" "(II)I", Cond.selects RX2 ⟨"PostingPlanner$Part", "seek", "(II)I"⟩ yX0_seek, Cond.instanceMethod yX0_seek, Cond.selects RX3 ⟨"PostingPlanner$Part", "seek", "(II)I"⟩ yX0_seek, Cond.selects RX4 ⟨"PostingPlanner$Part", "seek", "(II)I"⟩ yX4_seek, Cond.instanceMethod yX4_seek, Cond.initialized RX4, Cond.code yX4_seek cX4_seek 3 (some .int), Cond.fieldLink RX4 35 "PostingPlanner$PlannedLiteral" "place" "I", Cond.sameField "PostingPlanner$PlannedLiteral" "PostingPlanner$Part" "place" "I", Cond.fieldLink RX4 19 "PostingPlanner$PlannedLiteral" "truths" "J", Cond.fieldLink RX4 9 "PostingPlanner$PlannedLiteral" "tally" "LPostingPlanner$Tally;", Cond.fieldLink RX4 42 "PostingPlanner$Tally" "sum" "I", Cond.static yX10_firstOf]
def wsX0_seekAll_r2 : List Cond := [Cond.initialized RX10, Cond.code yX10_firstOf cX10_firstOf 4 (some .int), Cond.methodLink RX4 47 yX4_cost, Cond.instanceMethod yX4_cost, Cond.selects RX4 yX4_cost yX4_cost, Cond.code yX4_cost cX4_cost 4 (some .int), Cond.fieldLink RX4 22 "PostingPlanner$PlannedLiteral" "rank" "I", Cond.sameField "PostingPlanner$PlannedLiteral" "PostingPlanner$Part" "rank" "I", Cond.fieldLink RX4 15 "PostingPlanner$PlannedLiteral" "there" "J", Cond.methodLink RX4 26 yJ13_bitCount_95d88, Cond.static yJ13_bitCount_95d88, Cond.initialized RJ13, Cond.code yJ13_bitCount_95d88 cJ13_bitCount_95d88 2 (some .int), Cond.constantLong RJ13 314 (6148914691236517205), Cond.constantLong RJ13 316 (3689348814741910323), Cond.constantLong RJ13 318 (1085102592571150095), Cond.code yX0_seek cX0_seek 3 (some .int), Cond.fieldLink RX0 29 "PostingPlanner$Group" "place" "I", Cond.sameField "PostingPlanner$Group" "PostingPlanner$Part" "place" "I", Cond.fieldLink RX0 15 "PostingPlanner$Group" "kind" "I", Cond.fieldLink RX0 25 "PostingPlanner$Group" "there" "J", Cond.methodLink RX0 71 ⟨"PostingPlanner$Group", "seekAll", "(II)I"⟩, Cond.sameMethod "PostingPlanner$Group" "PostingPlanner$Group" "seekAll" "(II)I", Cond.selects RX2 ⟨"PostingPlanner$Group", "seekAll", "(II)I"⟩ yX0_seekAll]
def wsX0_seekAll_r3 : List Cond := [Cond.instanceMethod yX0_seekAll, Cond.selects RX3 ⟨"PostingPlanner$Group", "seekAll", "(II)I"⟩ yX0_seekAll, Cond.methodLink RX0 74 ⟨"PostingPlanner$Group", "seekAny", "(II)I"⟩, Cond.sameMethod "PostingPlanner$Group" "PostingPlanner$Group" "seekAny" "(II)I", Cond.selects RX2 ⟨"PostingPlanner$Group", "seekAny", "(II)I"⟩ yX0_seekAny, Cond.instanceMethod yX0_seekAny, Cond.selects RX3 ⟨"PostingPlanner$Group", "seekAny", "(II)I"⟩ yX0_seekAny, Cond.methodLink RX0 77 ⟨"PostingPlanner$Group", "seekSome", "(II)I"⟩, Cond.sameMethod "PostingPlanner$Group" "PostingPlanner$Group" "seekSome" "(II)I", Cond.selects RX2 ⟨"PostingPlanner$Group", "seekSome", "(II)I"⟩ yX0_seekSome, Cond.instanceMethod yX0_seekSome, Cond.selects RX3 ⟨"PostingPlanner$Group", "seekSome", "(II)I"⟩ yX0_seekSome, Cond.code yX0_seekAny cX0_seekAny 6 (some .int), Cond.methodLink RX0 60 Lib.Math.min.name, Cond.static Lib.Math.min.name, Cond.initialized "java/lang/Math", Cond.code Lib.Math.min.name Lib.Math.min.code 2 (some .int), Cond.code yX0_seekSome cX0_seekSome 6 (some .int), Cond.methodLink RX0 87 ⟨"PostingPlanner$Group", "neededPlace", "()I"⟩, Cond.sameMethod "PostingPlanner$Group" "PostingPlanner$Group" "neededPlace" "()I", Cond.selects RX2 ⟨"PostingPlanner$Group", "neededPlace", "()I"⟩ yX0_neededPlace, Cond.instanceMethod yX0_neededPlace, Cond.code yX0_neededPlace cX0_neededPlace 4 (some .int), Cond.fieldLink RX0 90 "PostingPlanner$Part" "place" "I"]
def wsX0_seekAll_r4 : List Cond := [Cond.fieldLink RX0 19 "PostingPlanner$Group" "need" "I", Cond.methodLink RX0 91 ⟨"PostingPlanner$Group", "placesUpTo", "(I)I"⟩, Cond.sameMethod "PostingPlanner$Group" "PostingPlanner$Group" "placesUpTo" "(I)I", Cond.selects RX2 ⟨"PostingPlanner$Group", "placesUpTo", "(I)I"⟩ yX0_placesUpTo, Cond.instanceMethod yX0_placesUpTo, Cond.code yX0_placesUpTo cX0_placesUpTo 5 (some .int), Cond.selects RX3 ⟨"PostingPlanner$Group", "placesUpTo", "(I)I"⟩ yX0_placesUpTo, Cond.selects RX3 ⟨"PostingPlanner$Group", "neededPlace", "()I"⟩ yX0_neededPlace]
def wsX0_seekAll : List Cond := .code yX0_seekAll cX0_seekAll 8 (some .int) :: ((wsX0_seekAll_r1 ++ (wsX0_seekAll_r2 ++ (wsX0_seekAll_r3 ++ wsX0_seekAll_r4))) ++ wsX20 ++ wsX30 ++ wsX40 ++ wsX80)
def wsX0_seekAny_r1 : List Cond := [Cond.fieldLink RX0 22 "PostingPlanner$Group" "size" "I", Cond.methodLink RX0 60 Lib.Math.min.name, Cond.static Lib.Math.min.name, Cond.initialized "java/lang/Math", Cond.code Lib.Math.min.name Lib.Math.min.code 2 (some .int), Cond.methodLink RX0 32 ⟨"PostingPlanner$Group", "partAt", "(I)LPostingPlanner$Part;"⟩, Cond.sameMethod "PostingPlanner$Group" "PostingPlanner$Group" "partAt" "(I)LPostingPlanner$Part;", Cond.selects RX2 ⟨"PostingPlanner$Group", "partAt", "(I)LPostingPlanner$Part;"⟩ yX0_partAt, Cond.instanceMethod yX0_partAt, Cond.initialized RX0, Cond.code yX0_partAt cX0_partAt 2 (some (.object "PostingPlanner$Part")), Cond.fieldLink RX0 9 "PostingPlanner$Group" "parts" "[LPostingPlanner$Part;", Cond.selects RX3 ⟨"PostingPlanner$Group", "partAt", "(I)LPostingPlanner$Part;"⟩ yX0_partAt, Cond.methodLink RX0 84 ⟨"PostingPlanner$Part", "seek", "(II)I"⟩, Cond.sameMethod "PostingPlanner$Part" "PostingPlanner$Part" "seek" "(II)I", Cond.selects RX2 ⟨"PostingPlanner$Part", "seek", "(II)I"⟩ yX0_seek, Cond.instanceMethod yX0_seek, Cond.selects RX3 ⟨"PostingPlanner$Part", "seek", "(II)I"⟩ yX0_seek, Cond.selects RX4 ⟨"PostingPlanner$Part", "seek", "(II)I"⟩ yX4_seek, Cond.instanceMethod yX4_seek, Cond.initialized RX4, Cond.code yX4_seek cX4_seek 3 (some .int), Cond.fieldLink RX4 35 "PostingPlanner$PlannedLiteral" "place" "I", Cond.sameField "PostingPlanner$PlannedLiteral" "PostingPlanner$Part" "place" "I"]
def wsX0_seekAny_r2 : List Cond := [Cond.fieldLink RX4 19 "PostingPlanner$PlannedLiteral" "truths" "J", Cond.fieldLink RX4 9 "PostingPlanner$PlannedLiteral" "tally" "LPostingPlanner$Tally;", Cond.fieldLink RX4 42 "PostingPlanner$Tally" "sum" "I", Cond.static yX10_firstOf, Cond.initialized RX10, Cond.code yX10_firstOf cX10_firstOf 4 (some .int), Cond.methodLink RX4 47 yX4_cost, Cond.instanceMethod yX4_cost, Cond.selects RX4 yX4_cost yX4_cost, Cond.code yX4_cost cX4_cost 4 (some .int), Cond.fieldLink RX4 22 "PostingPlanner$PlannedLiteral" "rank" "I", Cond.sameField "PostingPlanner$PlannedLiteral" "PostingPlanner$Part" "rank" "I", Cond.fieldLink RX4 15 "PostingPlanner$PlannedLiteral" "there" "J", Cond.methodLink RX4 26 yJ13_bitCount_95d88, Cond.static yJ13_bitCount_95d88, Cond.initialized RJ13, Cond.code yJ13_bitCount_95d88 cJ13_bitCount_95d88 2 (some .int), Cond.constantLong RJ13 314 (6148914691236517205), Cond.constantLong RJ13 316 (3689348814741910323), Cond.constantLong RJ13 318 (1085102592571150095), Cond.code yX0_seek cX0_seek 3 (some .int), Cond.fieldLink RX0 29 "PostingPlanner$Group" "place" "I", Cond.sameField "PostingPlanner$Group" "PostingPlanner$Part" "place" "I", Cond.fieldLink RX0 15 "PostingPlanner$Group" "kind" "I"]
def wsX0_seekAny_r3 : List Cond := [Cond.fieldLink RX0 25 "PostingPlanner$Group" "there" "J", Cond.methodLink RX0 71 ⟨"PostingPlanner$Group", "seekAll", "(II)I"⟩, Cond.sameMethod "PostingPlanner$Group" "PostingPlanner$Group" "seekAll" "(II)I", Cond.selects RX2 ⟨"PostingPlanner$Group", "seekAll", "(II)I"⟩ yX0_seekAll, Cond.instanceMethod yX0_seekAll, Cond.selects RX3 ⟨"PostingPlanner$Group", "seekAll", "(II)I"⟩ yX0_seekAll, Cond.methodLink RX0 74 ⟨"PostingPlanner$Group", "seekAny", "(II)I"⟩, Cond.sameMethod "PostingPlanner$Group" "PostingPlanner$Group" "seekAny" "(II)I", Cond.selects RX2 ⟨"PostingPlanner$Group", "seekAny", "(II)I"⟩ yX0_seekAny, Cond.instanceMethod yX0_seekAny, Cond.selects RX3 ⟨"PostingPlanner$Group", "seekAny", "(II)I"⟩ yX0_seekAny, Cond.methodLink RX0 77 ⟨"PostingPlanner$Group", "seekSome", "(II)I"⟩, Cond.sameMethod "PostingPlanner$Group" "PostingPlanner$Group" "seekSome" "(II)I", Cond.selects RX2 ⟨"PostingPlanner$Group", "seekSome", "(II)I"⟩ yX0_seekSome, Cond.instanceMethod yX0_seekSome, Cond.selects RX3 ⟨"PostingPlanner$Group", "seekSome", "(II)I"⟩ yX0_seekSome, Cond.code yX0_seekAll cX0_seekAll 8 (some .int), Cond.code yX0_seekSome cX0_seekSome 6 (some .int), Cond.methodLink RX0 87 ⟨"PostingPlanner$Group", "neededPlace", "()I"⟩, Cond.sameMethod "PostingPlanner$Group" "PostingPlanner$Group" "neededPlace" "()I", Cond.selects RX2 ⟨"PostingPlanner$Group", "neededPlace", "()I"⟩ yX0_neededPlace, Cond.instanceMethod yX0_neededPlace, Cond.code yX0_neededPlace cX0_neededPlace 4 (some .int), Cond.fieldLink RX0 90 "PostingPlanner$Part" "place" "I"]
def wsX0_seekAny_r4 : List Cond := [Cond.fieldLink RX0 19 "PostingPlanner$Group" "need" "I", Cond.methodLink RX0 91 ⟨"PostingPlanner$Group", "placesUpTo", "(I)I"⟩, Cond.sameMethod "PostingPlanner$Group" "PostingPlanner$Group" "placesUpTo" "(I)I", Cond.selects RX2 ⟨"PostingPlanner$Group", "placesUpTo", "(I)I"⟩ yX0_placesUpTo, Cond.instanceMethod yX0_placesUpTo, Cond.code yX0_placesUpTo cX0_placesUpTo 5 (some .int), Cond.selects RX3 ⟨"PostingPlanner$Group", "placesUpTo", "(I)I"⟩ yX0_placesUpTo, Cond.selects RX3 ⟨"PostingPlanner$Group", "neededPlace", "()I"⟩ yX0_neededPlace]
def wsX0_seekAny : List Cond := .code yX0_seekAny cX0_seekAny 6 (some .int) :: ((wsX0_seekAny_r1 ++ (wsX0_seekAny_r2 ++ (wsX0_seekAny_r3 ++ wsX0_seekAny_r4))) ++ wsX20 ++ wsX30 ++ wsX40 ++ wsX80)
def wsX0_seekSome_r1 : List Cond := [Cond.methodLink RX0 74 ⟨"PostingPlanner$Group", "seekAny", "(II)I"⟩, Cond.sameMethod "PostingPlanner$Group" "PostingPlanner$Group" "seekAny" "(II)I", Cond.selects RX2 ⟨"PostingPlanner$Group", "seekAny", "(II)I"⟩ yX0_seekAny, Cond.instanceMethod yX0_seekAny, Cond.initialized RX0, Cond.selects RX3 ⟨"PostingPlanner$Group", "seekAny", "(II)I"⟩ yX0_seekAny, Cond.methodLink RX0 87 ⟨"PostingPlanner$Group", "neededPlace", "()I"⟩, Cond.sameMethod "PostingPlanner$Group" "PostingPlanner$Group" "neededPlace" "()I", Cond.selects RX2 ⟨"PostingPlanner$Group", "neededPlace", "()I"⟩ yX0_neededPlace, Cond.instanceMethod yX0_neededPlace, Cond.code yX0_neededPlace cX0_neededPlace 4 (some .int), Cond.fieldLink RX0 22 "PostingPlanner$Group" "size" "I", Cond.fieldLink RX0 90 "PostingPlanner$Part" "place" "I", Cond.fieldLink RX0 19 "PostingPlanner$Group" "need" "I", Cond.methodLink RX0 32 ⟨"PostingPlanner$Group", "partAt", "(I)LPostingPlanner$Part;"⟩, Cond.sameMethod "PostingPlanner$Group" "PostingPlanner$Group" "partAt" "(I)LPostingPlanner$Part;", Cond.selects RX2 ⟨"PostingPlanner$Group", "partAt", "(I)LPostingPlanner$Part;"⟩ yX0_partAt, Cond.instanceMethod yX0_partAt, Cond.code yX0_partAt cX0_partAt 2 (some (.object "PostingPlanner$Part")), Cond.fieldLink RX0 9 "PostingPlanner$Group" "parts" "[LPostingPlanner$Part;", Cond.selects RX3 ⟨"PostingPlanner$Group", "partAt", "(I)LPostingPlanner$Part;"⟩ yX0_partAt, Cond.methodLink RX0 91 ⟨"PostingPlanner$Group", "placesUpTo", "(I)I"⟩, Cond.sameMethod "PostingPlanner$Group" "PostingPlanner$Group" "placesUpTo" "(I)I", Cond.selects RX2 ⟨"PostingPlanner$Group", "placesUpTo", "(I)I"⟩ yX0_placesUpTo]
def wsX0_seekSome_r2 : List Cond := [Cond.instanceMethod yX0_placesUpTo, Cond.code yX0_placesUpTo cX0_placesUpTo 5 (some .int), Cond.selects RX3 ⟨"PostingPlanner$Group", "placesUpTo", "(I)I"⟩ yX0_placesUpTo, Cond.selects RX3 ⟨"PostingPlanner$Group", "neededPlace", "()I"⟩ yX0_neededPlace, Cond.code yX0_seek cX0_seek 3 (some .int), Cond.fieldLink RX0 29 "PostingPlanner$Group" "place" "I", Cond.sameField "PostingPlanner$Group" "PostingPlanner$Part" "place" "I", Cond.fieldLink RX0 15 "PostingPlanner$Group" "kind" "I", Cond.fieldLink RX0 25 "PostingPlanner$Group" "there" "J", Cond.methodLink RX0 71 ⟨"PostingPlanner$Group", "seekAll", "(II)I"⟩, Cond.sameMethod "PostingPlanner$Group" "PostingPlanner$Group" "seekAll" "(II)I", Cond.selects RX2 ⟨"PostingPlanner$Group", "seekAll", "(II)I"⟩ yX0_seekAll, Cond.instanceMethod yX0_seekAll, Cond.selects RX3 ⟨"PostingPlanner$Group", "seekAll", "(II)I"⟩ yX0_seekAll, Cond.methodLink RX0 77 ⟨"PostingPlanner$Group", "seekSome", "(II)I"⟩, Cond.sameMethod "PostingPlanner$Group" "PostingPlanner$Group" "seekSome" "(II)I", Cond.selects RX2 ⟨"PostingPlanner$Group", "seekSome", "(II)I"⟩ yX0_seekSome, Cond.instanceMethod yX0_seekSome, Cond.selects RX3 ⟨"PostingPlanner$Group", "seekSome", "(II)I"⟩ yX0_seekSome, Cond.static yX10_firstOf, Cond.initialized RX10, Cond.code yX10_firstOf cX10_firstOf 4 (some .int), Cond.code yX0_seekAll cX0_seekAll 8 (some .int), Cond.methodLink RX0 84 ⟨"PostingPlanner$Part", "seek", "(II)I"⟩]
def wsX0_seekSome_r3 : List Cond := [Cond.sameMethod "PostingPlanner$Part" "PostingPlanner$Part" "seek" "(II)I", Cond.selects RX2 ⟨"PostingPlanner$Part", "seek", "(II)I"⟩ yX0_seek, Cond.instanceMethod yX0_seek, Cond.selects RX3 ⟨"PostingPlanner$Part", "seek", "(II)I"⟩ yX0_seek, Cond.selects RX4 ⟨"PostingPlanner$Part", "seek", "(II)I"⟩ yX4_seek, Cond.instanceMethod yX4_seek, Cond.initialized RX4, Cond.code yX4_seek cX4_seek 3 (some .int), Cond.fieldLink RX4 35 "PostingPlanner$PlannedLiteral" "place" "I", Cond.sameField "PostingPlanner$PlannedLiteral" "PostingPlanner$Part" "place" "I", Cond.fieldLink RX4 19 "PostingPlanner$PlannedLiteral" "truths" "J", Cond.fieldLink RX4 9 "PostingPlanner$PlannedLiteral" "tally" "LPostingPlanner$Tally;", Cond.fieldLink RX4 42 "PostingPlanner$Tally" "sum" "I", Cond.methodLink RX4 47 yX4_cost, Cond.instanceMethod yX4_cost, Cond.selects RX4 yX4_cost yX4_cost, Cond.code yX4_cost cX4_cost 4 (some .int), Cond.fieldLink RX4 22 "PostingPlanner$PlannedLiteral" "rank" "I", Cond.sameField "PostingPlanner$PlannedLiteral" "PostingPlanner$Part" "rank" "I", Cond.fieldLink RX4 15 "PostingPlanner$PlannedLiteral" "there" "J", Cond.methodLink RX4 26 yJ13_bitCount_95d88, Cond.static yJ13_bitCount_95d88, Cond.initialized RJ13, Cond.code yJ13_bitCount_95d88 cJ13_bitCount_95d88 2 (some .int)]
def wsX0_seekSome_r4 : List Cond := [Cond.constantLong RJ13 314 (6148914691236517205), Cond.constantLong RJ13 316 (3689348814741910323), Cond.constantLong RJ13 318 (1085102592571150095), Cond.code yX0_seekAny cX0_seekAny 6 (some .int), Cond.methodLink RX0 60 Lib.Math.min.name, Cond.static Lib.Math.min.name, Cond.initialized "java/lang/Math", Cond.code Lib.Math.min.name Lib.Math.min.code 2 (some .int)]
def wsX0_seekSome : List Cond := .code yX0_seekSome cX0_seekSome 6 (some .int) :: ((wsX0_seekSome_r1 ++ (wsX0_seekSome_r2 ++ (wsX0_seekSome_r3 ++ wsX0_seekSome_r4))) ++ wsX20 ++ wsX30 ++ wsX40 ++ wsX80)
def wsX4_init : List Cond := .code yX4_init cX4_init 2 none :: ([.fieldLink RX4 9 "PostingPlanner$PlannedLiteral" "tally" "LPostingPlanner$Tally;", .instanceMethod yX1_init, .initialized RX1, .code yX1_init cX1_init 1 none, .methodLink RX1 1 objectInit, .instanceMethod objectInit, .code objectInit ⟨#[0xb1]⟩ 1 none] ++ wsX40)
def wsX3_init : List Cond := .code yX3_init cX3_init 4 none :: ([.fieldLink RX3 9 "PostingPlanner$PlannedClause" "rank" "I", .sameField "PostingPlanner$PlannedClause" "PostingPlanner$Part" "rank" "I", .classLink RX3 15 RX4, .fieldLink RX3 17 "PostingPlanner$PlannedClause" "literals" "[LPostingPlanner$PlannedLiteral;", .instantiable RX4 6, .initialized RX4, .methodLink RX3 3 yX0_init, .instanceMethod yX0_init, .initialized RX0, .code yX0_init cX0_init 1 none, .classLink RX0 4 RX1, .fieldLink RX0 9 "PostingPlanner$Group" "parts" "[LPostingPlanner$Part;", .instanceMethod yX1_init, .initialized RX1, .code yX1_init cX1_init 1 none, .methodLink RX1 1 objectInit, .instanceMethod objectInit, .code objectInit ⟨#[0xb1]⟩ 1 none, .methodLink RX3 21 yX4_init, .instanceMethod yX4_init, .code yX4_init cX4_init 2 none, .fieldLink RX4 9 "PostingPlanner$PlannedLiteral" "tally" "LPostingPlanner$Tally;"] ++ wsX20 ++ wsX30 ++ wsX40)
def wsX2_init_r1 : List Cond := [Cond.classLink RX2 9 RX3, Cond.fieldLink RX2 11 "PostingPlanner$Plan" "clauses" "[LPostingPlanner$PlannedClause;", Cond.instantiable RX3 9, Cond.initialized RX3, Cond.methodLink RX2 3 yX0_init, Cond.instanceMethod yX0_init, Cond.initialized RX0, Cond.code yX0_init cX0_init 1 none, Cond.classLink RX0 4 RX1, Cond.fieldLink RX0 9 "PostingPlanner$Group" "parts" "[LPostingPlanner$Part;", Cond.instanceMethod yX1_init, Cond.initialized RX1, Cond.code yX1_init cX1_init 1 none, Cond.methodLink RX1 1 objectInit, Cond.instanceMethod objectInit, Cond.code objectInit ⟨#[0xb1]⟩ 1 none, Cond.methodLink RX2 17 yX3_init, Cond.instanceMethod yX3_init, Cond.code yX3_init cX3_init 4 none, Cond.fieldLink RX3 9 "PostingPlanner$PlannedClause" "rank" "I", Cond.sameField "PostingPlanner$PlannedClause" "PostingPlanner$Part" "rank" "I", Cond.classLink RX3 15 RX4, Cond.fieldLink RX3 17 "PostingPlanner$PlannedClause" "literals" "[LPostingPlanner$PlannedLiteral;", Cond.instantiable RX4 6]
def wsX2_init_r2 : List Cond := [Cond.initialized RX4, Cond.methodLink RX3 3 yX0_init, Cond.methodLink RX3 21 yX4_init, Cond.instanceMethod yX4_init, Cond.code yX4_init cX4_init 2 none, Cond.fieldLink RX4 9 "PostingPlanner$PlannedLiteral" "tally" "LPostingPlanner$Tally;"]
def wsX2_init : List Cond := .code yX2_init cX2_init 3 none :: ((wsX2_init_r1 ++ wsX2_init_r2) ++ wsX20 ++ wsX30 ++ wsX40)
def wsX7_allThere : List Cond := .code yX7_allThere cX7_allThere 4 (some .long) :: ([.fieldLink RX7 9 "PostingPlanner$Shelf" "words" "[I"] ++ wsX70)
def wsX5_toldAt : List Cond := .code yX5_toldAt cX5_toldAt 2 (some (.object "PostingPlanner$ToldClause")) :: ([.fieldLink RX5 22 "PostingPlanner$Question" "size" "I", .fieldLink RX5 11 "PostingPlanner$Question" "clauses" "[LPostingPlanner$ToldClause;"] ++ wsX50)
def wsX3_turn : List Cond := .code yX3_turn cX3_turn 2 none :: ([.fieldLink RX3 66 "PostingPlanner$PlannedClause" "kind" "I", .sameField "PostingPlanner$PlannedClause" "PostingPlanner$Group" "kind" "I", .fieldLink RX3 67 "PostingPlanner$PlannedClause" "need" "I", .sameField "PostingPlanner$PlannedClause" "PostingPlanner$Group" "need" "I"] ++ wsX20 ++ wsX30)
def wsX10_contraryOf : List Cond := .code yX10_contraryOf cX10_contraryOf 1 (some .int) :: ([])
def wsX10_isLiteralTrue : List Cond := .code yX10_isLiteralTrue cX10_isLiteralTrue 2 (some .boolean) :: ([])
def wsX7_truthsOf : List Cond := .code yX7_truthsOf cX7_truthsOf 5 (some .long) :: ([.fieldLink RX7 9 "PostingPlanner$Shelf" "words" "[I", .static yX10_isLiteralTrue, .initialized RX10, .code yX10_isLiteralTrue cX10_isLiteralTrue 2 (some .boolean)] ++ wsX70)
def wsX4_make : List Cond := .code yX4_make cX4_make 6 none :: ([.fieldLink RX4 15 "PostingPlanner$PlannedLiteral" "there" "J", .fieldLink RX4 19 "PostingPlanner$PlannedLiteral" "truths" "J", .fieldLink RX4 22 "PostingPlanner$PlannedLiteral" "rank" "I", .sameField "PostingPlanner$PlannedLiteral" "PostingPlanner$Part" "rank" "I", .fieldLink RX4 32 "PostingPlanner$PlannedLiteral" "estimate" "I", .sameField "PostingPlanner$PlannedLiteral" "PostingPlanner$Part" "estimate" "I", .fieldLink RX4 35 "PostingPlanner$PlannedLiteral" "place" "I", .sameField "PostingPlanner$PlannedLiteral" "PostingPlanner$Part" "place" "I", .methodLink RX4 26 yJ13_bitCount_95d88, .static yJ13_bitCount_95d88, .initialized RJ13, .code yJ13_bitCount_95d88 cJ13_bitCount_95d88 2 (some .int), .constantLong RJ13 314 (6148914691236517205), .constantLong RJ13 316 (3689348814741910323), .constantLong RJ13 318 (1085102592571150095)] ++ wsX40 ++ wsX20 ++ wsX30)
def wsX3_keepLiterals_r1 : List Cond := [Cond.fieldLink RX3 40 "PostingPlanner$ToldClause" "size" "I", Cond.fieldLink RX3 72 "PostingPlanner$ToldClause" "codes" "[I", Cond.fieldLink RX3 17 "PostingPlanner$PlannedClause" "literals" "[LPostingPlanner$PlannedLiteral;", Cond.fieldLink RX3 36 "PostingPlanner$ToldClause" "isNegated" "Z", Cond.fieldLink RX3 66 "PostingPlanner$PlannedClause" "kind" "I", Cond.sameField "PostingPlanner$PlannedClause" "PostingPlanner$Group" "kind" "I", Cond.methodLink RX3 68 ⟨"PostingPlanner$PlannedClause", "isFixed", "()Z"⟩, Cond.sameMethod "PostingPlanner$PlannedClause" "PostingPlanner$Group" "isFixed" "()Z", Cond.selects RX3 ⟨"PostingPlanner$PlannedClause", "isFixed", "()Z"⟩ yX0_isFixed, Cond.instanceMethod yX0_isFixed, Cond.initialized RX0, Cond.code yX0_isFixed cX0_isFixed 1 (some .boolean), Cond.fieldLink RX0 15 "PostingPlanner$Group" "kind" "I", Cond.static yX10_contraryOf, Cond.initialized RX10, Cond.code yX10_contraryOf cX10_contraryOf 1 (some .int), Cond.methodLink RX3 80 ⟨"PostingPlanner$PlannedClause", "hasRank", "(I)Z"⟩, Cond.sameMethod "PostingPlanner$PlannedClause" "PostingPlanner$Group" "hasRank" "(I)Z", Cond.selects RX3 ⟨"PostingPlanner$PlannedClause", "hasRank", "(I)Z"⟩ yX0_hasRank, Cond.instanceMethod yX0_hasRank, Cond.code yX0_hasRank cX0_hasRank 4 (some .boolean), Cond.fieldLink RX0 22 "PostingPlanner$Group" "size" "I", Cond.fieldLink RX0 36 "PostingPlanner$Part" "rank" "I", Cond.methodLink RX0 32 ⟨"PostingPlanner$Group", "partAt", "(I)LPostingPlanner$Part;"⟩]
def wsX3_keepLiterals_r2 : List Cond := [Cond.sameMethod "PostingPlanner$Group" "PostingPlanner$Group" "partAt" "(I)LPostingPlanner$Part;", Cond.selects RX2 ⟨"PostingPlanner$Group", "partAt", "(I)LPostingPlanner$Part;"⟩ yX0_partAt, Cond.instanceMethod yX0_partAt, Cond.code yX0_partAt cX0_partAt 2 (some (.object "PostingPlanner$Part")), Cond.fieldLink RX0 9 "PostingPlanner$Group" "parts" "[LPostingPlanner$Part;", Cond.selects RX3 ⟨"PostingPlanner$Group", "partAt", "(I)LPostingPlanner$Part;"⟩ yX0_partAt, Cond.methodLink RX3 84 yX7_truthsOf, Cond.instanceMethod yX7_truthsOf, Cond.selects RX7 yX7_truthsOf yX7_truthsOf, Cond.initialized RX7, Cond.code yX7_truthsOf cX7_truthsOf 5 (some .long), Cond.fieldLink RX7 9 "PostingPlanner$Shelf" "words" "[I", Cond.static yX10_isLiteralTrue, Cond.code yX10_isLiteralTrue cX10_isLiteralTrue 2 (some .boolean), Cond.methodLink RX3 90 yX4_make, Cond.instanceMethod yX4_make, Cond.selects RX4 yX4_make yX4_make, Cond.initialized RX4, Cond.code yX4_make cX4_make 6 none, Cond.fieldLink RX4 15 "PostingPlanner$PlannedLiteral" "there" "J", Cond.fieldLink RX4 19 "PostingPlanner$PlannedLiteral" "truths" "J", Cond.fieldLink RX4 22 "PostingPlanner$PlannedLiteral" "rank" "I", Cond.sameField "PostingPlanner$PlannedLiteral" "PostingPlanner$Part" "rank" "I", Cond.fieldLink RX4 32 "PostingPlanner$PlannedLiteral" "estimate" "I"]
def wsX3_keepLiterals_r3 : List Cond := [Cond.sameField "PostingPlanner$PlannedLiteral" "PostingPlanner$Part" "estimate" "I", Cond.fieldLink RX4 35 "PostingPlanner$PlannedLiteral" "place" "I", Cond.sameField "PostingPlanner$PlannedLiteral" "PostingPlanner$Part" "place" "I", Cond.methodLink RX4 26 yJ13_bitCount_95d88, Cond.static yJ13_bitCount_95d88, Cond.initialized RJ13, Cond.code yJ13_bitCount_95d88 cJ13_bitCount_95d88 2 (some .int), Cond.constantLong RJ13 314 (6148914691236517205), Cond.constantLong RJ13 316 (3689348814741910323), Cond.constantLong RJ13 318 (1085102592571150095), Cond.methodLink RX3 94 ⟨"PostingPlanner$PlannedClause", "keep", "(LPostingPlanner$Part;)V"⟩, Cond.sameMethod "PostingPlanner$PlannedClause" "PostingPlanner$Group" "keep" "(LPostingPlanner$Part;)V", Cond.selects RX3 ⟨"PostingPlanner$PlannedClause", "keep", "(LPostingPlanner$Part;)V"⟩ yX0_keep, Cond.instanceMethod yX0_keep, Cond.code yX0_keep cX0_keep 2 none]
def wsX3_keepLiterals : List Cond := .code yX3_keepLiterals cX3_keepLiterals 7 none :: ((wsX3_keepLiterals_r1 ++ (wsX3_keepLiterals_r2 ++ wsX3_keepLiterals_r3)) ++ wsX90 ++ wsX30 ++ wsX20 ++ wsX40 ++ wsX70)
def wsX3_settleContraries_r1 : List Cond := [Cond.fieldLink RX3 66 "PostingPlanner$PlannedClause" "kind" "I", Cond.sameField "PostingPlanner$PlannedClause" "PostingPlanner$Group" "kind" "I", Cond.fieldLink RX3 98 "PostingPlanner$PlannedClause" "size" "I", Cond.sameField "PostingPlanner$PlannedClause" "PostingPlanner$Group" "size" "I", Cond.fieldLink RX3 103 "PostingPlanner$Part" "rank" "I", Cond.methodLink RX3 99 ⟨"PostingPlanner$PlannedClause", "partAt", "(I)LPostingPlanner$Part;"⟩, Cond.sameMethod "PostingPlanner$PlannedClause" "PostingPlanner$Group" "partAt" "(I)LPostingPlanner$Part;", Cond.selects RX3 ⟨"PostingPlanner$PlannedClause", "partAt", "(I)LPostingPlanner$Part;"⟩ yX0_partAt, Cond.instanceMethod yX0_partAt, Cond.initialized RX0, Cond.code yX0_partAt cX0_partAt 2 (some (.object "PostingPlanner$Part")), Cond.fieldLink RX0 22 "PostingPlanner$Group" "size" "I", Cond.fieldLink RX0 9 "PostingPlanner$Group" "parts" "[LPostingPlanner$Part;", Cond.static yX10_contraryOf, Cond.initialized RX10, Cond.code yX10_contraryOf cX10_contraryOf 1 (some .int), Cond.methodLink RX3 80 ⟨"PostingPlanner$PlannedClause", "hasRank", "(I)Z"⟩, Cond.sameMethod "PostingPlanner$PlannedClause" "PostingPlanner$Group" "hasRank" "(I)Z", Cond.selects RX3 ⟨"PostingPlanner$PlannedClause", "hasRank", "(I)Z"⟩ yX0_hasRank, Cond.instanceMethod yX0_hasRank, Cond.code yX0_hasRank cX0_hasRank 4 (some .boolean), Cond.fieldLink RX0 36 "PostingPlanner$Part" "rank" "I", Cond.methodLink RX0 32 ⟨"PostingPlanner$Group", "partAt", "(I)LPostingPlanner$Part;"⟩, Cond.sameMethod "PostingPlanner$Group" "PostingPlanner$Group" "partAt" "(I)LPostingPlanner$Part;"]
def wsX3_settleContraries_r2 : List Cond := [Cond.selects RX2 ⟨"PostingPlanner$Group", "partAt", "(I)LPostingPlanner$Part;"⟩ yX0_partAt, Cond.selects RX3 ⟨"PostingPlanner$Group", "partAt", "(I)LPostingPlanner$Part;"⟩ yX0_partAt, Cond.methodLink RX3 106 ⟨"PostingPlanner$PlannedClause", "fix", "(I)V"⟩, Cond.sameMethod "PostingPlanner$PlannedClause" "PostingPlanner$Group" "fix" "(I)V", Cond.selects RX3 ⟨"PostingPlanner$PlannedClause", "fix", "(I)V"⟩ yX0_fix, Cond.instanceMethod yX0_fix, Cond.code yX0_fix cX0_fix 2 none, Cond.fieldLink RX0 15 "PostingPlanner$Group" "kind" "I"]
def wsX3_settleContraries : List Cond := .code yX3_settleContraries cX3_settleContraries 3 none :: ((wsX3_settleContraries_r1 ++ wsX3_settleContraries_r2) ++ wsX20 ++ wsX30 ++ wsX40)
def wsX3_make_r1 : List Cond := [Cond.fieldLink RX3 24 "PostingPlanner$ToldClause" "kind" "I", Cond.fieldLink RX3 29 "PostingPlanner$ToldClause" "need" "I", Cond.fieldLink RX3 36 "PostingPlanner$ToldClause" "isNegated" "Z", Cond.fieldLink RX3 40 "PostingPlanner$ToldClause" "size" "I", Cond.methodLink RX3 32 ⟨"PostingPlanner$PlannedClause", "restart", "(IIJ)V"⟩, Cond.sameMethod "PostingPlanner$PlannedClause" "PostingPlanner$Group" "restart" "(IIJ)V", Cond.selects RX3 ⟨"PostingPlanner$PlannedClause", "restart", "(IIJ)V"⟩ yX0_restart, Cond.instanceMethod yX0_restart, Cond.initialized RX0, Cond.code yX0_restart cX0_restart 5 none, Cond.fieldLink RX0 15 "PostingPlanner$Group" "kind" "I", Cond.fieldLink RX0 19 "PostingPlanner$Group" "need" "I", Cond.fieldLink RX0 22 "PostingPlanner$Group" "size" "I", Cond.fieldLink RX0 25 "PostingPlanner$Group" "there" "J", Cond.fieldLink RX0 29 "PostingPlanner$Group" "place" "I", Cond.sameField "PostingPlanner$Group" "PostingPlanner$Part" "place" "I", Cond.methodLink RX3 43 yX3_turn, Cond.instanceMethod yX3_turn, Cond.selects RX3 yX3_turn yX3_turn, Cond.initialized RX3, Cond.code yX3_turn cX3_turn 2 none, Cond.fieldLink RX3 66 "PostingPlanner$PlannedClause" "kind" "I", Cond.sameField "PostingPlanner$PlannedClause" "PostingPlanner$Group" "kind" "I", Cond.fieldLink RX3 67 "PostingPlanner$PlannedClause" "need" "I"]
def wsX3_make_r2 : List Cond := [Cond.sameField "PostingPlanner$PlannedClause" "PostingPlanner$Group" "need" "I", Cond.methodLink RX3 47 ⟨"PostingPlanner$PlannedClause", "settleSome", "(I)V"⟩, Cond.sameMethod "PostingPlanner$PlannedClause" "PostingPlanner$Group" "settleSome" "(I)V", Cond.selects RX3 ⟨"PostingPlanner$PlannedClause", "settleSome", "(I)V"⟩ yX0_settleSome, Cond.instanceMethod yX0_settleSome, Cond.code yX0_settleSome cX0_settleSome 2 none, Cond.methodLink RX0 39 ⟨"PostingPlanner$Group", "fix", "(I)V"⟩, Cond.sameMethod "PostingPlanner$Group" "PostingPlanner$Group" "fix" "(I)V", Cond.selects RX2 ⟨"PostingPlanner$Group", "fix", "(I)V"⟩ yX0_fix, Cond.instanceMethod yX0_fix, Cond.code yX0_fix cX0_fix 2 none, Cond.selects RX3 ⟨"PostingPlanner$Group", "fix", "(I)V"⟩ yX0_fix, Cond.methodLink RX3 50 yX3_keepLiterals, Cond.instanceMethod yX3_keepLiterals, Cond.selects RX3 yX3_keepLiterals yX3_keepLiterals, Cond.code yX3_keepLiterals cX3_keepLiterals 7 none, Cond.fieldLink RX3 72 "PostingPlanner$ToldClause" "codes" "[I", Cond.fieldLink RX3 17 "PostingPlanner$PlannedClause" "literals" "[LPostingPlanner$PlannedLiteral;", Cond.methodLink RX3 68 ⟨"PostingPlanner$PlannedClause", "isFixed", "()Z"⟩, Cond.sameMethod "PostingPlanner$PlannedClause" "PostingPlanner$Group" "isFixed" "()Z", Cond.selects RX3 ⟨"PostingPlanner$PlannedClause", "isFixed", "()Z"⟩ yX0_isFixed, Cond.instanceMethod yX0_isFixed, Cond.code yX0_isFixed cX0_isFixed 1 (some .boolean), Cond.static yX10_contraryOf]
def wsX3_make_r3 : List Cond := [Cond.initialized RX10, Cond.code yX10_contraryOf cX10_contraryOf 1 (some .int), Cond.methodLink RX3 80 ⟨"PostingPlanner$PlannedClause", "hasRank", "(I)Z"⟩, Cond.sameMethod "PostingPlanner$PlannedClause" "PostingPlanner$Group" "hasRank" "(I)Z", Cond.selects RX3 ⟨"PostingPlanner$PlannedClause", "hasRank", "(I)Z"⟩ yX0_hasRank, Cond.instanceMethod yX0_hasRank, Cond.code yX0_hasRank cX0_hasRank 4 (some .boolean), Cond.fieldLink RX0 36 "PostingPlanner$Part" "rank" "I", Cond.methodLink RX0 32 ⟨"PostingPlanner$Group", "partAt", "(I)LPostingPlanner$Part;"⟩, Cond.sameMethod "PostingPlanner$Group" "PostingPlanner$Group" "partAt" "(I)LPostingPlanner$Part;", Cond.selects RX2 ⟨"PostingPlanner$Group", "partAt", "(I)LPostingPlanner$Part;"⟩ yX0_partAt, Cond.instanceMethod yX0_partAt, Cond.code yX0_partAt cX0_partAt 2 (some (.object "PostingPlanner$Part")), Cond.fieldLink RX0 9 "PostingPlanner$Group" "parts" "[LPostingPlanner$Part;", Cond.selects RX3 ⟨"PostingPlanner$Group", "partAt", "(I)LPostingPlanner$Part;"⟩ yX0_partAt, Cond.methodLink RX3 84 yX7_truthsOf, Cond.instanceMethod yX7_truthsOf, Cond.selects RX7 yX7_truthsOf yX7_truthsOf, Cond.initialized RX7, Cond.code yX7_truthsOf cX7_truthsOf 5 (some .long), Cond.fieldLink RX7 9 "PostingPlanner$Shelf" "words" "[I", Cond.static yX10_isLiteralTrue, Cond.code yX10_isLiteralTrue cX10_isLiteralTrue 2 (some .boolean), Cond.methodLink RX3 90 yX4_make]
def wsX3_make_r4 : List Cond := [Cond.instanceMethod yX4_make, Cond.selects RX4 yX4_make yX4_make, Cond.initialized RX4, Cond.code yX4_make cX4_make 6 none, Cond.fieldLink RX4 15 "PostingPlanner$PlannedLiteral" "there" "J", Cond.fieldLink RX4 19 "PostingPlanner$PlannedLiteral" "truths" "J", Cond.fieldLink RX4 22 "PostingPlanner$PlannedLiteral" "rank" "I", Cond.sameField "PostingPlanner$PlannedLiteral" "PostingPlanner$Part" "rank" "I", Cond.fieldLink RX4 32 "PostingPlanner$PlannedLiteral" "estimate" "I", Cond.sameField "PostingPlanner$PlannedLiteral" "PostingPlanner$Part" "estimate" "I", Cond.fieldLink RX4 35 "PostingPlanner$PlannedLiteral" "place" "I", Cond.sameField "PostingPlanner$PlannedLiteral" "PostingPlanner$Part" "place" "I", Cond.methodLink RX4 26 yJ13_bitCount_95d88, Cond.static yJ13_bitCount_95d88, Cond.initialized RJ13, Cond.code yJ13_bitCount_95d88 cJ13_bitCount_95d88 2 (some .int), Cond.constantLong RJ13 314 (6148914691236517205), Cond.constantLong RJ13 316 (3689348814741910323), Cond.constantLong RJ13 318 (1085102592571150095), Cond.methodLink RX3 94 ⟨"PostingPlanner$PlannedClause", "keep", "(LPostingPlanner$Part;)V"⟩, Cond.sameMethod "PostingPlanner$PlannedClause" "PostingPlanner$Group" "keep" "(LPostingPlanner$Part;)V", Cond.selects RX3 ⟨"PostingPlanner$PlannedClause", "keep", "(LPostingPlanner$Part;)V"⟩ yX0_keep, Cond.instanceMethod yX0_keep, Cond.code yX0_keep cX0_keep 2 none]
def wsX3_make_r5 : List Cond := [Cond.methodLink RX3 54 yX3_settleContraries, Cond.instanceMethod yX3_settleContraries, Cond.selects RX3 yX3_settleContraries yX3_settleContraries, Cond.code yX3_settleContraries cX3_settleContraries 3 none, Cond.fieldLink RX3 98 "PostingPlanner$PlannedClause" "size" "I", Cond.sameField "PostingPlanner$PlannedClause" "PostingPlanner$Group" "size" "I", Cond.fieldLink RX3 103 "PostingPlanner$Part" "rank" "I", Cond.methodLink RX3 99 ⟨"PostingPlanner$PlannedClause", "partAt", "(I)LPostingPlanner$Part;"⟩, Cond.sameMethod "PostingPlanner$PlannedClause" "PostingPlanner$Group" "partAt" "(I)LPostingPlanner$Part;", Cond.selects RX3 ⟨"PostingPlanner$PlannedClause", "partAt", "(I)LPostingPlanner$Part;"⟩ yX0_partAt, Cond.methodLink RX3 106 ⟨"PostingPlanner$PlannedClause", "fix", "(I)V"⟩, Cond.sameMethod "PostingPlanner$PlannedClause" "PostingPlanner$Group" "fix" "(I)V", Cond.selects RX3 ⟨"PostingPlanner$PlannedClause", "fix", "(I)V"⟩ yX0_fix, Cond.methodLink RX3 57 ⟨"PostingPlanner$PlannedClause", "settleEmpty", "()V"⟩, Cond.sameMethod "PostingPlanner$PlannedClause" "PostingPlanner$Group" "settleEmpty" "()V", Cond.selects RX3 ⟨"PostingPlanner$PlannedClause", "settleEmpty", "()V"⟩ yX0_settleEmpty, Cond.instanceMethod yX0_settleEmpty, Cond.code yX0_settleEmpty cX0_settleEmpty 1 none, Cond.methodLink RX3 60 ⟨"PostingPlanner$PlannedClause", "appraise", "()V"⟩, Cond.sameMethod "PostingPlanner$PlannedClause" "PostingPlanner$Group" "appraise" "()V", Cond.selects RX3 ⟨"PostingPlanner$PlannedClause", "appraise", "()V"⟩ yX0_appraise, Cond.instanceMethod yX0_appraise, Cond.code yX0_appraise cX0_appraise 2 none, Cond.fieldLink RX0 53 "PostingPlanner$Group" "estimate" "I"]
def wsX3_make_r6 : List Cond := [Cond.sameField "PostingPlanner$Group" "PostingPlanner$Part" "estimate" "I", Cond.methodLink RX0 60 Lib.Math.min.name, Cond.static Lib.Math.min.name, Cond.initialized "java/lang/Math", Cond.code Lib.Math.min.name Lib.Math.min.code 2 (some .int), Cond.methodLink RX0 43 yJ13_bitCount_95d88, Cond.methodLink RX0 49 ⟨"PostingPlanner$Group", "leastEstimate", "(I)I"⟩, Cond.sameMethod "PostingPlanner$Group" "PostingPlanner$Group" "leastEstimate" "(I)I", Cond.selects RX2 ⟨"PostingPlanner$Group", "leastEstimate", "(I)I"⟩ yX0_leastEstimate, Cond.instanceMethod yX0_leastEstimate, Cond.code yX0_leastEstimate cX0_leastEstimate 5 (some .int), Cond.fieldLink RX0 66 "PostingPlanner$Part" "estimate" "I", Cond.selects RX3 ⟨"PostingPlanner$Group", "leastEstimate", "(I)I"⟩ yX0_leastEstimate, Cond.methodLink RX0 56 ⟨"PostingPlanner$Group", "sumOfEstimates", "()I"⟩, Cond.sameMethod "PostingPlanner$Group" "PostingPlanner$Group" "sumOfEstimates" "()I", Cond.selects RX2 ⟨"PostingPlanner$Group", "sumOfEstimates", "()I"⟩ yX0_sumOfEstimates, Cond.instanceMethod yX0_sumOfEstimates, Cond.code yX0_sumOfEstimates cX0_sumOfEstimates 4 (some .int), Cond.selects RX3 ⟨"PostingPlanner$Group", "sumOfEstimates", "()I"⟩ yX0_sumOfEstimates, Cond.methodLink RX3 63 ⟨"PostingPlanner$PlannedClause", "order", "()V"⟩, Cond.sameMethod "PostingPlanner$PlannedClause" "PostingPlanner$Group" "order" "()V", Cond.selects RX3 ⟨"PostingPlanner$PlannedClause", "order", "()V"⟩ yX0_order, Cond.instanceMethod yX0_order, Cond.code yX0_order cX0_order 4 none]
def wsX3_make_r7 : List Cond := [Cond.methodLink RX0 67 ⟨"PostingPlanner$Group", "isBefore", "(LPostingPlanner$Part;LPostingPlanner$Part;)Z"⟩, Cond.sameMethod "PostingPlanner$Group" "PostingPlanner$Group" "isBefore" "(LPostingPlanner$Part;LPostingPlanner$Part;)Z", Cond.selects RX2 ⟨"PostingPlanner$Group", "isBefore", "(LPostingPlanner$Part;LPostingPlanner$Part;)Z"⟩ yX0_isBefore, Cond.instanceMethod yX0_isBefore, Cond.code yX0_isBefore cX0_isBefore 3 (some .boolean), Cond.selects RX3 ⟨"PostingPlanner$Group", "isBefore", "(LPostingPlanner$Part;LPostingPlanner$Part;)Z"⟩ yX0_isBefore]
def wsX3_make : List Cond := .code yX3_make cX3_make 5 none :: ((wsX3_make_r1 ++ (wsX3_make_r2 ++ (wsX3_make_r3 ++ (wsX3_make_r4 ++ (wsX3_make_r5 ++ (wsX3_make_r6 ++ wsX3_make_r7)))))) ++ wsX90 ++ wsX20 ++ wsX30 ++ wsX40 ++ wsX70)
def wsX2_takeIn_r1 : List Cond := [Cond.fieldLink RX2 76 "PostingPlanner$PlannedClause" "kind" "I", Cond.sameField "PostingPlanner$PlannedClause" "PostingPlanner$Group" "kind" "I", Cond.fieldLink RX2 77 "PostingPlanner$Plan" "kind" "I", Cond.sameField "PostingPlanner$Plan" "PostingPlanner$Group" "kind" "I", Cond.fieldLink RX2 78 "PostingPlanner$Plan" "need" "I", Cond.sameField "PostingPlanner$Plan" "PostingPlanner$Group" "need" "I", Cond.methodLink RX2 71 ⟨"PostingPlanner$PlannedClause", "isFixed", "()Z"⟩, Cond.sameMethod "PostingPlanner$PlannedClause" "PostingPlanner$Group" "isFixed" "()Z", Cond.selects RX3 ⟨"PostingPlanner$PlannedClause", "isFixed", "()Z"⟩ yX0_isFixed, Cond.instanceMethod yX0_isFixed, Cond.initialized RX0, Cond.code yX0_isFixed cX0_isFixed 1 (some .boolean), Cond.fieldLink RX0 15 "PostingPlanner$Group" "kind" "I", Cond.methodLink RX2 72 ⟨"PostingPlanner$Plan", "keep", "(LPostingPlanner$Part;)V"⟩, Cond.sameMethod "PostingPlanner$Plan" "PostingPlanner$Group" "keep" "(LPostingPlanner$Part;)V", Cond.selects RX2 ⟨"PostingPlanner$Plan", "keep", "(LPostingPlanner$Part;)V"⟩ yX0_keep, Cond.instanceMethod yX0_keep, Cond.code yX0_keep cX0_keep 2 none, Cond.fieldLink RX0 22 "PostingPlanner$Group" "size" "I", Cond.fieldLink RX0 9 "PostingPlanner$Group" "parts" "[LPostingPlanner$Part;", Cond.methodLink RX2 79 ⟨"PostingPlanner$Plan", "fix", "(I)V"⟩, Cond.sameMethod "PostingPlanner$Plan" "PostingPlanner$Group" "fix" "(I)V", Cond.selects RX2 ⟨"PostingPlanner$Plan", "fix", "(I)V"⟩ yX0_fix, Cond.instanceMethod yX0_fix]
def wsX2_takeIn_r2 : List Cond := [Cond.code yX0_fix cX0_fix 2 none]
def wsX2_takeIn : List Cond := .code yX2_takeIn cX2_takeIn 2 none :: ((wsX2_takeIn_r1 ++ wsX2_takeIn_r2) ++ wsX20 ++ wsX30)
def wsX2_make_r1 : List Cond := [Cond.fieldLink RX2 26 "PostingPlanner$Question" "kind" "I", Cond.fieldLink RX2 32 "PostingPlanner$Question" "need" "I", Cond.fieldLink RX2 11 "PostingPlanner$Plan" "clauses" "[LPostingPlanner$PlannedClause;", Cond.fieldLink RX2 55 "PostingPlanner$Plan" "size" "I", Cond.sameField "PostingPlanner$Plan" "PostingPlanner$Group" "size" "I", Cond.methodLink RX2 20 yX7_allThere, Cond.instanceMethod yX7_allThere, Cond.selects RX7 yX7_allThere yX7_allThere, Cond.initialized RX7, Cond.code yX7_allThere cX7_allThere 4 (some .long), Cond.fieldLink RX7 9 "PostingPlanner$Shelf" "words" "[I", Cond.methodLink RX2 35 ⟨"PostingPlanner$Plan", "restart", "(IIJ)V"⟩, Cond.sameMethod "PostingPlanner$Plan" "PostingPlanner$Group" "restart" "(IIJ)V", Cond.selects RX2 ⟨"PostingPlanner$Plan", "restart", "(IIJ)V"⟩ yX0_restart, Cond.instanceMethod yX0_restart, Cond.initialized RX0, Cond.code yX0_restart cX0_restart 5 none, Cond.fieldLink RX0 15 "PostingPlanner$Group" "kind" "I", Cond.fieldLink RX0 19 "PostingPlanner$Group" "need" "I", Cond.fieldLink RX0 22 "PostingPlanner$Group" "size" "I", Cond.fieldLink RX0 25 "PostingPlanner$Group" "there" "J", Cond.fieldLink RX0 29 "PostingPlanner$Group" "place" "I", Cond.sameField "PostingPlanner$Group" "PostingPlanner$Part" "place" "I", Cond.methodLink RX2 39 ⟨"PostingPlanner$Plan", "isFixed", "()Z"⟩]
def wsX2_make_r2 : List Cond := [Cond.sameMethod "PostingPlanner$Plan" "PostingPlanner$Group" "isFixed" "()Z", Cond.selects RX2 ⟨"PostingPlanner$Plan", "isFixed", "()Z"⟩ yX0_isFixed, Cond.instanceMethod yX0_isFixed, Cond.code yX0_isFixed cX0_isFixed 1 (some .boolean), Cond.methodLink RX2 43 yX5_toldAt, Cond.instanceMethod yX5_toldAt, Cond.selects RX5 yX5_toldAt yX5_toldAt, Cond.initialized RX5, Cond.code yX5_toldAt cX5_toldAt 2 (some (.object "PostingPlanner$ToldClause")), Cond.fieldLink RX5 22 "PostingPlanner$Question" "size" "I", Cond.fieldLink RX5 11 "PostingPlanner$Question" "clauses" "[LPostingPlanner$ToldClause;", Cond.methodLink RX2 47 yX3_make, Cond.instanceMethod yX3_make, Cond.selects RX3 yX3_make yX3_make, Cond.initialized RX3, Cond.code yX3_make cX3_make 5 none, Cond.fieldLink RX3 24 "PostingPlanner$ToldClause" "kind" "I", Cond.fieldLink RX3 29 "PostingPlanner$ToldClause" "need" "I", Cond.fieldLink RX3 36 "PostingPlanner$ToldClause" "isNegated" "Z", Cond.fieldLink RX3 40 "PostingPlanner$ToldClause" "size" "I", Cond.methodLink RX3 32 ⟨"PostingPlanner$PlannedClause", "restart", "(IIJ)V"⟩, Cond.sameMethod "PostingPlanner$PlannedClause" "PostingPlanner$Group" "restart" "(IIJ)V", Cond.selects RX3 ⟨"PostingPlanner$PlannedClause", "restart", "(IIJ)V"⟩ yX0_restart, Cond.methodLink RX3 43 yX3_turn]
def wsX2_make_r3 : List Cond := [Cond.instanceMethod yX3_turn, Cond.selects RX3 yX3_turn yX3_turn, Cond.code yX3_turn cX3_turn 2 none, Cond.fieldLink RX3 66 "PostingPlanner$PlannedClause" "kind" "I", Cond.sameField "PostingPlanner$PlannedClause" "PostingPlanner$Group" "kind" "I", Cond.fieldLink RX3 67 "PostingPlanner$PlannedClause" "need" "I", Cond.sameField "PostingPlanner$PlannedClause" "PostingPlanner$Group" "need" "I", Cond.methodLink RX3 47 ⟨"PostingPlanner$PlannedClause", "settleSome", "(I)V"⟩, Cond.sameMethod "PostingPlanner$PlannedClause" "PostingPlanner$Group" "settleSome" "(I)V", Cond.selects RX3 ⟨"PostingPlanner$PlannedClause", "settleSome", "(I)V"⟩ yX0_settleSome, Cond.instanceMethod yX0_settleSome, Cond.code yX0_settleSome cX0_settleSome 2 none, Cond.methodLink RX0 39 ⟨"PostingPlanner$Group", "fix", "(I)V"⟩, Cond.sameMethod "PostingPlanner$Group" "PostingPlanner$Group" "fix" "(I)V", Cond.selects RX2 ⟨"PostingPlanner$Group", "fix", "(I)V"⟩ yX0_fix, Cond.instanceMethod yX0_fix, Cond.code yX0_fix cX0_fix 2 none, Cond.selects RX3 ⟨"PostingPlanner$Group", "fix", "(I)V"⟩ yX0_fix, Cond.methodLink RX3 50 yX3_keepLiterals, Cond.instanceMethod yX3_keepLiterals, Cond.selects RX3 yX3_keepLiterals yX3_keepLiterals, Cond.code yX3_keepLiterals cX3_keepLiterals 7 none, Cond.fieldLink RX3 72 "PostingPlanner$ToldClause" "codes" "[I", Cond.fieldLink RX3 17 "PostingPlanner$PlannedClause" "literals" "[LPostingPlanner$PlannedLiteral;"]
def wsX2_make_r4 : List Cond := [Cond.methodLink RX3 68 ⟨"PostingPlanner$PlannedClause", "isFixed", "()Z"⟩, Cond.sameMethod "PostingPlanner$PlannedClause" "PostingPlanner$Group" "isFixed" "()Z", Cond.selects RX3 ⟨"PostingPlanner$PlannedClause", "isFixed", "()Z"⟩ yX0_isFixed, Cond.static yX10_contraryOf, Cond.initialized RX10, Cond.code yX10_contraryOf cX10_contraryOf 1 (some .int), Cond.methodLink RX3 80 ⟨"PostingPlanner$PlannedClause", "hasRank", "(I)Z"⟩, Cond.sameMethod "PostingPlanner$PlannedClause" "PostingPlanner$Group" "hasRank" "(I)Z", Cond.selects RX3 ⟨"PostingPlanner$PlannedClause", "hasRank", "(I)Z"⟩ yX0_hasRank, Cond.instanceMethod yX0_hasRank, Cond.code yX0_hasRank cX0_hasRank 4 (some .boolean), Cond.fieldLink RX0 36 "PostingPlanner$Part" "rank" "I", Cond.methodLink RX0 32 ⟨"PostingPlanner$Group", "partAt", "(I)LPostingPlanner$Part;"⟩, Cond.sameMethod "PostingPlanner$Group" "PostingPlanner$Group" "partAt" "(I)LPostingPlanner$Part;", Cond.selects RX2 ⟨"PostingPlanner$Group", "partAt", "(I)LPostingPlanner$Part;"⟩ yX0_partAt, Cond.instanceMethod yX0_partAt, Cond.code yX0_partAt cX0_partAt 2 (some (.object "PostingPlanner$Part")), Cond.fieldLink RX0 9 "PostingPlanner$Group" "parts" "[LPostingPlanner$Part;", Cond.selects RX3 ⟨"PostingPlanner$Group", "partAt", "(I)LPostingPlanner$Part;"⟩ yX0_partAt, Cond.methodLink RX3 84 yX7_truthsOf, Cond.instanceMethod yX7_truthsOf, Cond.selects RX7 yX7_truthsOf yX7_truthsOf, Cond.code yX7_truthsOf cX7_truthsOf 5 (some .long), Cond.static yX10_isLiteralTrue]
def wsX2_make_r5 : List Cond := [Cond.code yX10_isLiteralTrue cX10_isLiteralTrue 2 (some .boolean), Cond.methodLink RX3 90 yX4_make, Cond.instanceMethod yX4_make, Cond.selects RX4 yX4_make yX4_make, Cond.initialized RX4, Cond.code yX4_make cX4_make 6 none, Cond.fieldLink RX4 15 "PostingPlanner$PlannedLiteral" "there" "J", Cond.fieldLink RX4 19 "PostingPlanner$PlannedLiteral" "truths" "J", Cond.fieldLink RX4 22 "PostingPlanner$PlannedLiteral" "rank" "I", Cond.sameField "PostingPlanner$PlannedLiteral" "PostingPlanner$Part" "rank" "I", Cond.fieldLink RX4 32 "PostingPlanner$PlannedLiteral" "estimate" "I", Cond.sameField "PostingPlanner$PlannedLiteral" "PostingPlanner$Part" "estimate" "I", Cond.fieldLink RX4 35 "PostingPlanner$PlannedLiteral" "place" "I", Cond.sameField "PostingPlanner$PlannedLiteral" "PostingPlanner$Part" "place" "I", Cond.methodLink RX4 26 yJ13_bitCount_95d88, Cond.static yJ13_bitCount_95d88, Cond.initialized RJ13, Cond.code yJ13_bitCount_95d88 cJ13_bitCount_95d88 2 (some .int), Cond.constantLong RJ13 314 (6148914691236517205), Cond.constantLong RJ13 316 (3689348814741910323), Cond.constantLong RJ13 318 (1085102592571150095), Cond.methodLink RX3 94 ⟨"PostingPlanner$PlannedClause", "keep", "(LPostingPlanner$Part;)V"⟩, Cond.sameMethod "PostingPlanner$PlannedClause" "PostingPlanner$Group" "keep" "(LPostingPlanner$Part;)V", Cond.selects RX3 ⟨"PostingPlanner$PlannedClause", "keep", "(LPostingPlanner$Part;)V"⟩ yX0_keep]
def wsX2_make_r6 : List Cond := [Cond.instanceMethod yX0_keep, Cond.code yX0_keep cX0_keep 2 none, Cond.methodLink RX3 54 yX3_settleContraries, Cond.instanceMethod yX3_settleContraries, Cond.selects RX3 yX3_settleContraries yX3_settleContraries, Cond.code yX3_settleContraries cX3_settleContraries 3 none, Cond.fieldLink RX3 98 "PostingPlanner$PlannedClause" "size" "I", Cond.sameField "PostingPlanner$PlannedClause" "PostingPlanner$Group" "size" "I", Cond.fieldLink RX3 103 "PostingPlanner$Part" "rank" "I", Cond.methodLink RX3 99 ⟨"PostingPlanner$PlannedClause", "partAt", "(I)LPostingPlanner$Part;"⟩, Cond.sameMethod "PostingPlanner$PlannedClause" "PostingPlanner$Group" "partAt" "(I)LPostingPlanner$Part;", Cond.selects RX3 ⟨"PostingPlanner$PlannedClause", "partAt", "(I)LPostingPlanner$Part;"⟩ yX0_partAt, Cond.methodLink RX3 106 ⟨"PostingPlanner$PlannedClause", "fix", "(I)V"⟩, Cond.sameMethod "PostingPlanner$PlannedClause" "PostingPlanner$Group" "fix" "(I)V", Cond.selects RX3 ⟨"PostingPlanner$PlannedClause", "fix", "(I)V"⟩ yX0_fix, Cond.methodLink RX3 57 ⟨"PostingPlanner$PlannedClause", "settleEmpty", "()V"⟩, Cond.sameMethod "PostingPlanner$PlannedClause" "PostingPlanner$Group" "settleEmpty" "()V", Cond.selects RX3 ⟨"PostingPlanner$PlannedClause", "settleEmpty", "()V"⟩ yX0_settleEmpty, Cond.instanceMethod yX0_settleEmpty, Cond.code yX0_settleEmpty cX0_settleEmpty 1 none, Cond.methodLink RX3 60 ⟨"PostingPlanner$PlannedClause", "appraise", "()V"⟩, Cond.sameMethod "PostingPlanner$PlannedClause" "PostingPlanner$Group" "appraise" "()V", Cond.selects RX3 ⟨"PostingPlanner$PlannedClause", "appraise", "()V"⟩ yX0_appraise, Cond.instanceMethod yX0_appraise]
def wsX2_make_r7 : List Cond := [Cond.code yX0_appraise cX0_appraise 2 none, Cond.fieldLink RX0 53 "PostingPlanner$Group" "estimate" "I", Cond.sameField "PostingPlanner$Group" "PostingPlanner$Part" "estimate" "I", Cond.methodLink RX0 60 Lib.Math.min.name, Cond.static Lib.Math.min.name, Cond.initialized "java/lang/Math", Cond.code Lib.Math.min.name Lib.Math.min.code 2 (some .int), Cond.methodLink RX0 43 yJ13_bitCount_95d88, Cond.methodLink RX0 49 ⟨"PostingPlanner$Group", "leastEstimate", "(I)I"⟩, Cond.sameMethod "PostingPlanner$Group" "PostingPlanner$Group" "leastEstimate" "(I)I", Cond.selects RX2 ⟨"PostingPlanner$Group", "leastEstimate", "(I)I"⟩ yX0_leastEstimate, Cond.instanceMethod yX0_leastEstimate, Cond.code yX0_leastEstimate cX0_leastEstimate 5 (some .int), Cond.fieldLink RX0 66 "PostingPlanner$Part" "estimate" "I", Cond.selects RX3 ⟨"PostingPlanner$Group", "leastEstimate", "(I)I"⟩ yX0_leastEstimate, Cond.methodLink RX0 56 ⟨"PostingPlanner$Group", "sumOfEstimates", "()I"⟩, Cond.sameMethod "PostingPlanner$Group" "PostingPlanner$Group" "sumOfEstimates" "()I", Cond.selects RX2 ⟨"PostingPlanner$Group", "sumOfEstimates", "()I"⟩ yX0_sumOfEstimates, Cond.instanceMethod yX0_sumOfEstimates, Cond.code yX0_sumOfEstimates cX0_sumOfEstimates 4 (some .int), Cond.selects RX3 ⟨"PostingPlanner$Group", "sumOfEstimates", "()I"⟩ yX0_sumOfEstimates, Cond.methodLink RX3 63 ⟨"PostingPlanner$PlannedClause", "order", "()V"⟩, Cond.sameMethod "PostingPlanner$PlannedClause" "PostingPlanner$Group" "order" "()V", Cond.selects RX3 ⟨"PostingPlanner$PlannedClause", "order", "()V"⟩ yX0_order]
def wsX2_make_r8 : List Cond := [Cond.instanceMethod yX0_order, Cond.code yX0_order cX0_order 4 none, Cond.methodLink RX0 67 ⟨"PostingPlanner$Group", "isBefore", "(LPostingPlanner$Part;LPostingPlanner$Part;)Z"⟩, Cond.sameMethod "PostingPlanner$Group" "PostingPlanner$Group" "isBefore" "(LPostingPlanner$Part;LPostingPlanner$Part;)Z", Cond.selects RX2 ⟨"PostingPlanner$Group", "isBefore", "(LPostingPlanner$Part;LPostingPlanner$Part;)Z"⟩ yX0_isBefore, Cond.instanceMethod yX0_isBefore, Cond.code yX0_isBefore cX0_isBefore 3 (some .boolean), Cond.selects RX3 ⟨"PostingPlanner$Group", "isBefore", "(LPostingPlanner$Part;LPostingPlanner$Part;)Z"⟩ yX0_isBefore, Cond.methodLink RX2 51 yX2_takeIn, Cond.instanceMethod yX2_takeIn, Cond.selects RX2 yX2_takeIn yX2_takeIn, Cond.initialized RX2, Cond.code yX2_takeIn cX2_takeIn 2 none, Cond.fieldLink RX2 76 "PostingPlanner$PlannedClause" "kind" "I", Cond.fieldLink RX2 77 "PostingPlanner$Plan" "kind" "I", Cond.sameField "PostingPlanner$Plan" "PostingPlanner$Group" "kind" "I", Cond.fieldLink RX2 78 "PostingPlanner$Plan" "need" "I", Cond.sameField "PostingPlanner$Plan" "PostingPlanner$Group" "need" "I", Cond.methodLink RX2 71 ⟨"PostingPlanner$PlannedClause", "isFixed", "()Z"⟩, Cond.methodLink RX2 72 ⟨"PostingPlanner$Plan", "keep", "(LPostingPlanner$Part;)V"⟩, Cond.sameMethod "PostingPlanner$Plan" "PostingPlanner$Group" "keep" "(LPostingPlanner$Part;)V", Cond.selects RX2 ⟨"PostingPlanner$Plan", "keep", "(LPostingPlanner$Part;)V"⟩ yX0_keep, Cond.methodLink RX2 79 ⟨"PostingPlanner$Plan", "fix", "(I)V"⟩, Cond.sameMethod "PostingPlanner$Plan" "PostingPlanner$Group" "fix" "(I)V"]
def wsX2_make_r9 : List Cond := [Cond.selects RX2 ⟨"PostingPlanner$Plan", "fix", "(I)V"⟩ yX0_fix, Cond.methodLink RX2 58 ⟨"PostingPlanner$Plan", "settleSome", "(I)V"⟩, Cond.sameMethod "PostingPlanner$Plan" "PostingPlanner$Group" "settleSome" "(I)V", Cond.selects RX2 ⟨"PostingPlanner$Plan", "settleSome", "(I)V"⟩ yX0_settleSome, Cond.methodLink RX2 62 ⟨"PostingPlanner$Plan", "settleEmpty", "()V"⟩, Cond.sameMethod "PostingPlanner$Plan" "PostingPlanner$Group" "settleEmpty" "()V", Cond.selects RX2 ⟨"PostingPlanner$Plan", "settleEmpty", "()V"⟩ yX0_settleEmpty, Cond.methodLink RX2 65 ⟨"PostingPlanner$Plan", "appraise", "()V"⟩, Cond.sameMethod "PostingPlanner$Plan" "PostingPlanner$Group" "appraise" "()V", Cond.selects RX2 ⟨"PostingPlanner$Plan", "appraise", "()V"⟩ yX0_appraise, Cond.methodLink RX2 68 ⟨"PostingPlanner$Plan", "order", "()V"⟩, Cond.sameMethod "PostingPlanner$Plan" "PostingPlanner$Group" "order" "()V", Cond.selects RX2 ⟨"PostingPlanner$Plan", "order", "()V"⟩ yX0_order]
def wsX2_make : List Cond := .code yX2_make cX2_make 7 none :: ((wsX2_make_r1 ++ (wsX2_make_r2 ++ (wsX2_make_r3 ++ (wsX2_make_r4 ++ (wsX2_make_r5 ++ (wsX2_make_r6 ++ (wsX2_make_r7 ++ (wsX2_make_r8 ++ wsX2_make_r9)))))))) ++ wsX50 ++ wsX20 ++ wsX30 ++ wsX70 ++ wsX40 ++ wsX90)
def wsX2_plannedAt : List Cond := .code yX2_plannedAt cX2_plannedAt 3 (some (.object "PostingPlanner$PlannedClause")) :: ([.fieldLink RX2 86 "PostingPlanner$Part" "rank" "I", .fieldLink RX2 11 "PostingPlanner$Plan" "clauses" "[LPostingPlanner$PlannedClause;", .methodLink RX2 82 ⟨"PostingPlanner$Plan", "partAt", "(I)LPostingPlanner$Part;"⟩, .sameMethod "PostingPlanner$Plan" "PostingPlanner$Group" "partAt" "(I)LPostingPlanner$Part;", .selects RX2 ⟨"PostingPlanner$Plan", "partAt", "(I)LPostingPlanner$Part;"⟩ yX0_partAt, .instanceMethod yX0_partAt, .initialized RX0, .code yX0_partAt cX0_partAt 2 (some (.object "PostingPlanner$Part")), .fieldLink RX0 22 "PostingPlanner$Group" "size" "I", .fieldLink RX0 9 "PostingPlanner$Group" "parts" "[LPostingPlanner$Part;"] ++ wsX20 ++ wsX30 ++ wsX40)
def wsX9_init : List Cond := .code yX9_init cX9_init 1 none :: ([.methodLink RX9 3 objectInit, .instanceMethod objectInit, .code objectInit ⟨#[0xb1]⟩ 1 none, .arrayClass .int, .fieldLink RX9 9 "PostingPlanner$ToldClause" "codes" "[I"] ++ wsX90)
def wsX5_init : List Cond := .code yX5_init cX5_init 2 none :: ([.methodLink RX5 3 objectInit, .instanceMethod objectInit, .code objectInit ⟨#[0xb1]⟩ 1 none, .classLink RX5 9 RX9, .fieldLink RX5 11 "PostingPlanner$Question" "clauses" "[LPostingPlanner$ToldClause;", .instantiable RX9 5, .initialized RX9, .fieldLink RX5 18 "PostingPlanner$Question" "kind" "I", .methodLink RX5 17 yX9_init, .instanceMethod yX9_init, .code yX9_init cX9_init 1 none, .methodLink RX9 3 objectInit, .arrayClass .int, .fieldLink RX9 9 "PostingPlanner$ToldClause" "codes" "[I"] ++ wsX50 ++ wsX90)
def wsX5_restart : List Cond := .code yX5_restart cX5_restart 4 (some .int) :: ([.fieldLink RX5 22 "PostingPlanner$Question" "size" "I", .fieldLink RX5 18 "PostingPlanner$Question" "kind" "I", .fieldLink RX5 25 "PostingPlanner$Question" "need" "I"] ++ wsX50)
def wsX9_restart : List Cond := .code yX9_restart cX9_restart 4 none :: ([.fieldLink RX9 15 "PostingPlanner$ToldClause" "kind" "I", .fieldLink RX9 19 "PostingPlanner$ToldClause" "need" "I", .fieldLink RX9 22 "PostingPlanner$ToldClause" "isNegated" "Z", .fieldLink RX9 26 "PostingPlanner$ToldClause" "size" "I"] ++ wsX90)
def wsX5_append : List Cond := .code yX5_append cX5_append 4 (some .int) :: ([.fieldLink RX5 22 "PostingPlanner$Question" "size" "I", .fieldLink RX5 11 "PostingPlanner$Question" "clauses" "[LPostingPlanner$ToldClause;", .methodLink RX5 28 yX9_restart, .instanceMethod yX9_restart, .selects RX9 yX9_restart yX9_restart, .initialized RX9, .code yX9_restart cX9_restart 4 none, .fieldLink RX9 15 "PostingPlanner$ToldClause" "kind" "I", .fieldLink RX9 19 "PostingPlanner$ToldClause" "need" "I", .fieldLink RX9 22 "PostingPlanner$ToldClause" "isNegated" "Z", .fieldLink RX9 26 "PostingPlanner$ToldClause" "size" "I"] ++ wsX50 ++ wsX90)
def wsX10_isEnough : List Cond := .code yX10_isEnough cX10_isEnough 4 (some .boolean) :: ([])
def wsX9_isTrueOf : List Cond := .code yX9_isTrueOf cX9_isTrueOf 4 (some .boolean) :: ([.fieldLink RX9 26 "PostingPlanner$ToldClause" "size" "I", .fieldLink RX9 9 "PostingPlanner$ToldClause" "codes" "[I", .fieldLink RX9 15 "PostingPlanner$ToldClause" "kind" "I", .fieldLink RX9 19 "PostingPlanner$ToldClause" "need" "I", .fieldLink RX9 22 "PostingPlanner$ToldClause" "isNegated" "Z", .static yX10_isLiteralTrue, .initialized RX10, .code yX10_isLiteralTrue cX10_isLiteralTrue 2 (some .boolean), .static yX10_isEnough, .code yX10_isEnough cX10_isEnough 4 (some .boolean)] ++ wsX90)
def wsX5_isTrueOf : List Cond := .code yX5_isTrueOf cX5_isTrueOf 5 (some .boolean) :: ([.fieldLink RX5 22 "PostingPlanner$Question" "size" "I", .fieldLink RX5 18 "PostingPlanner$Question" "kind" "I", .fieldLink RX5 25 "PostingPlanner$Question" "need" "I", .methodLink RX5 32 yX5_toldAt, .instanceMethod yX5_toldAt, .selects RX5 yX5_toldAt yX5_toldAt, .initialized RX5, .code yX5_toldAt cX5_toldAt 2 (some (.object "PostingPlanner$ToldClause")), .fieldLink RX5 11 "PostingPlanner$Question" "clauses" "[LPostingPlanner$ToldClause;", .methodLink RX5 36 yX9_isTrueOf, .instanceMethod yX9_isTrueOf, .selects RX9 yX9_isTrueOf yX9_isTrueOf, .initialized RX9, .code yX9_isTrueOf cX9_isTrueOf 4 (some .boolean), .fieldLink RX9 26 "PostingPlanner$ToldClause" "size" "I", .fieldLink RX9 9 "PostingPlanner$ToldClause" "codes" "[I", .fieldLink RX9 15 "PostingPlanner$ToldClause" "kind" "I", .fieldLink RX9 19 "PostingPlanner$ToldClause" "need" "I", .fieldLink RX9 22 "PostingPlanner$ToldClause" "isNegated" "Z", .static yX10_isLiteralTrue, .initialized RX10, .code yX10_isLiteralTrue cX10_isLiteralTrue 2 (some .boolean), .static yX10_isEnough, .code yX10_isEnough cX10_isEnough 4 (some .boolean)] ++ wsX50 ++ wsX90)
def wsX8_init : List Cond := .code yX8_init cX8_init 1 none :: ([.methodLink RX8 1 objectInit, .instanceMethod objectInit, .code objectInit ⟨#[0xb1]⟩ 1 none])
def wsX6_init_r1 : List Cond := [Cond.methodLink RX6 3 objectInit, Cond.instanceMethod objectInit, Cond.code objectInit ⟨#[0xb1]⟩ 1 none, Cond.classLink RX6 9 RX8, Cond.instantiable RX8 1, Cond.initialized RX8, Cond.fieldLink RX6 12 "PostingPlanner$Run" "tally" "LPostingPlanner$Tally;", Cond.classLink RX6 18 RX2, Cond.instantiable RX2 9, Cond.initialized RX2, Cond.fieldLink RX6 23 "PostingPlanner$Run" "plan" "LPostingPlanner$Plan;", Cond.instanceMethod yX8_init, Cond.code yX8_init cX8_init 1 none, Cond.methodLink RX8 1 objectInit, Cond.methodLink RX6 20 yX2_init, Cond.instanceMethod yX2_init, Cond.code yX2_init cX2_init 3 none, Cond.classLink RX2 9 RX3, Cond.fieldLink RX2 11 "PostingPlanner$Plan" "clauses" "[LPostingPlanner$PlannedClause;", Cond.instantiable RX3 9, Cond.initialized RX3, Cond.methodLink RX2 3 yX0_init, Cond.instanceMethod yX0_init, Cond.initialized RX0]
def wsX6_init_r2 : List Cond := [Cond.code yX0_init cX0_init 1 none, Cond.classLink RX0 4 RX1, Cond.fieldLink RX0 9 "PostingPlanner$Group" "parts" "[LPostingPlanner$Part;", Cond.instanceMethod yX1_init, Cond.initialized RX1, Cond.code yX1_init cX1_init 1 none, Cond.methodLink RX1 1 objectInit, Cond.methodLink RX2 17 yX3_init, Cond.instanceMethod yX3_init, Cond.code yX3_init cX3_init 4 none, Cond.fieldLink RX3 9 "PostingPlanner$PlannedClause" "rank" "I", Cond.sameField "PostingPlanner$PlannedClause" "PostingPlanner$Part" "rank" "I", Cond.classLink RX3 15 RX4, Cond.fieldLink RX3 17 "PostingPlanner$PlannedClause" "literals" "[LPostingPlanner$PlannedLiteral;", Cond.instantiable RX4 6, Cond.initialized RX4, Cond.methodLink RX3 3 yX0_init, Cond.methodLink RX3 21 yX4_init, Cond.instanceMethod yX4_init, Cond.code yX4_init cX4_init 2 none, Cond.fieldLink RX4 9 "PostingPlanner$PlannedLiteral" "tally" "LPostingPlanner$Tally;"]
def wsX6_init : List Cond := .code yX6_init cX6_init 1 none :: ((wsX6_init_r1 ++ wsX6_init_r2) ++ wsX80 ++ wsX60 ++ wsX20 ++ wsX30 ++ wsX40)
def wsX6_restart_r1 : List Cond := [Cond.fieldLink RX6 23 "PostingPlanner$Run" "plan" "LPostingPlanner$Plan;", Cond.fieldLink RX6 12 "PostingPlanner$Run" "tally" "LPostingPlanner$Tally;", Cond.fieldLink RX6 31 "PostingPlanner$Tally" "sum" "I", Cond.fieldLink RX6 35 "PostingPlanner$Run" "isBegun" "Z", Cond.fieldLink RX6 39 "PostingPlanner$Run" "given" "I", Cond.fieldLink RX6 42 "PostingPlanner$Plan" "estimate" "I", Cond.sameField "PostingPlanner$Plan" "PostingPlanner$Part" "estimate" "I", Cond.methodLink RX6 27 yX2_make, Cond.instanceMethod yX2_make, Cond.selects RX2 yX2_make yX2_make, Cond.initialized RX2, Cond.code yX2_make cX2_make 7 none, Cond.fieldLink RX2 26 "PostingPlanner$Question" "kind" "I", Cond.fieldLink RX2 32 "PostingPlanner$Question" "need" "I", Cond.fieldLink RX2 11 "PostingPlanner$Plan" "clauses" "[LPostingPlanner$PlannedClause;", Cond.fieldLink RX2 55 "PostingPlanner$Plan" "size" "I", Cond.sameField "PostingPlanner$Plan" "PostingPlanner$Group" "size" "I", Cond.methodLink RX2 20 yX7_allThere, Cond.instanceMethod yX7_allThere, Cond.selects RX7 yX7_allThere yX7_allThere, Cond.initialized RX7, Cond.code yX7_allThere cX7_allThere 4 (some .long), Cond.fieldLink RX7 9 "PostingPlanner$Shelf" "words" "[I", Cond.methodLink RX2 35 ⟨"PostingPlanner$Plan", "restart", "(IIJ)V"⟩]
def wsX6_restart_r2 : List Cond := [Cond.sameMethod "PostingPlanner$Plan" "PostingPlanner$Group" "restart" "(IIJ)V", Cond.selects RX2 ⟨"PostingPlanner$Plan", "restart", "(IIJ)V"⟩ yX0_restart, Cond.instanceMethod yX0_restart, Cond.initialized RX0, Cond.code yX0_restart cX0_restart 5 none, Cond.fieldLink RX0 15 "PostingPlanner$Group" "kind" "I", Cond.fieldLink RX0 19 "PostingPlanner$Group" "need" "I", Cond.fieldLink RX0 22 "PostingPlanner$Group" "size" "I", Cond.fieldLink RX0 25 "PostingPlanner$Group" "there" "J", Cond.fieldLink RX0 29 "PostingPlanner$Group" "place" "I", Cond.sameField "PostingPlanner$Group" "PostingPlanner$Part" "place" "I", Cond.methodLink RX2 39 ⟨"PostingPlanner$Plan", "isFixed", "()Z"⟩, Cond.sameMethod "PostingPlanner$Plan" "PostingPlanner$Group" "isFixed" "()Z", Cond.selects RX2 ⟨"PostingPlanner$Plan", "isFixed", "()Z"⟩ yX0_isFixed, Cond.instanceMethod yX0_isFixed, Cond.code yX0_isFixed cX0_isFixed 1 (some .boolean), Cond.methodLink RX2 43 yX5_toldAt, Cond.instanceMethod yX5_toldAt, Cond.selects RX5 yX5_toldAt yX5_toldAt, Cond.initialized RX5, Cond.code yX5_toldAt cX5_toldAt 2 (some (.object "PostingPlanner$ToldClause")), Cond.fieldLink RX5 22 "PostingPlanner$Question" "size" "I", Cond.fieldLink RX5 11 "PostingPlanner$Question" "clauses" "[LPostingPlanner$ToldClause;", Cond.methodLink RX2 47 yX3_make]
def wsX6_restart_r3 : List Cond := [Cond.instanceMethod yX3_make, Cond.selects RX3 yX3_make yX3_make, Cond.initialized RX3, Cond.code yX3_make cX3_make 5 none, Cond.fieldLink RX3 24 "PostingPlanner$ToldClause" "kind" "I", Cond.fieldLink RX3 29 "PostingPlanner$ToldClause" "need" "I", Cond.fieldLink RX3 36 "PostingPlanner$ToldClause" "isNegated" "Z", Cond.fieldLink RX3 40 "PostingPlanner$ToldClause" "size" "I", Cond.methodLink RX3 32 ⟨"PostingPlanner$PlannedClause", "restart", "(IIJ)V"⟩, Cond.sameMethod "PostingPlanner$PlannedClause" "PostingPlanner$Group" "restart" "(IIJ)V", Cond.selects RX3 ⟨"PostingPlanner$PlannedClause", "restart", "(IIJ)V"⟩ yX0_restart, Cond.methodLink RX3 43 yX3_turn, Cond.instanceMethod yX3_turn, Cond.selects RX3 yX3_turn yX3_turn, Cond.code yX3_turn cX3_turn 2 none, Cond.fieldLink RX3 66 "PostingPlanner$PlannedClause" "kind" "I", Cond.sameField "PostingPlanner$PlannedClause" "PostingPlanner$Group" "kind" "I", Cond.fieldLink RX3 67 "PostingPlanner$PlannedClause" "need" "I", Cond.sameField "PostingPlanner$PlannedClause" "PostingPlanner$Group" "need" "I", Cond.methodLink RX3 47 ⟨"PostingPlanner$PlannedClause", "settleSome", "(I)V"⟩, Cond.sameMethod "PostingPlanner$PlannedClause" "PostingPlanner$Group" "settleSome" "(I)V", Cond.selects RX3 ⟨"PostingPlanner$PlannedClause", "settleSome", "(I)V"⟩ yX0_settleSome, Cond.instanceMethod yX0_settleSome, Cond.code yX0_settleSome cX0_settleSome 2 none]
def wsX6_restart_r4 : List Cond := [Cond.methodLink RX0 39 ⟨"PostingPlanner$Group", "fix", "(I)V"⟩, Cond.sameMethod "PostingPlanner$Group" "PostingPlanner$Group" "fix" "(I)V", Cond.selects RX2 ⟨"PostingPlanner$Group", "fix", "(I)V"⟩ yX0_fix, Cond.instanceMethod yX0_fix, Cond.code yX0_fix cX0_fix 2 none, Cond.selects RX3 ⟨"PostingPlanner$Group", "fix", "(I)V"⟩ yX0_fix, Cond.methodLink RX3 50 yX3_keepLiterals, Cond.instanceMethod yX3_keepLiterals, Cond.selects RX3 yX3_keepLiterals yX3_keepLiterals, Cond.code yX3_keepLiterals cX3_keepLiterals 7 none, Cond.fieldLink RX3 72 "PostingPlanner$ToldClause" "codes" "[I", Cond.fieldLink RX3 17 "PostingPlanner$PlannedClause" "literals" "[LPostingPlanner$PlannedLiteral;", Cond.methodLink RX3 68 ⟨"PostingPlanner$PlannedClause", "isFixed", "()Z"⟩, Cond.sameMethod "PostingPlanner$PlannedClause" "PostingPlanner$Group" "isFixed" "()Z", Cond.selects RX3 ⟨"PostingPlanner$PlannedClause", "isFixed", "()Z"⟩ yX0_isFixed, Cond.static yX10_contraryOf, Cond.initialized RX10, Cond.code yX10_contraryOf cX10_contraryOf 1 (some .int), Cond.methodLink RX3 80 ⟨"PostingPlanner$PlannedClause", "hasRank", "(I)Z"⟩, Cond.sameMethod "PostingPlanner$PlannedClause" "PostingPlanner$Group" "hasRank" "(I)Z", Cond.selects RX3 ⟨"PostingPlanner$PlannedClause", "hasRank", "(I)Z"⟩ yX0_hasRank, Cond.instanceMethod yX0_hasRank, Cond.code yX0_hasRank cX0_hasRank 4 (some .boolean), Cond.fieldLink RX0 36 "PostingPlanner$Part" "rank" "I"]
def wsX6_restart_r5 : List Cond := [Cond.methodLink RX0 32 ⟨"PostingPlanner$Group", "partAt", "(I)LPostingPlanner$Part;"⟩, Cond.sameMethod "PostingPlanner$Group" "PostingPlanner$Group" "partAt" "(I)LPostingPlanner$Part;", Cond.selects RX2 ⟨"PostingPlanner$Group", "partAt", "(I)LPostingPlanner$Part;"⟩ yX0_partAt, Cond.instanceMethod yX0_partAt, Cond.code yX0_partAt cX0_partAt 2 (some (.object "PostingPlanner$Part")), Cond.fieldLink RX0 9 "PostingPlanner$Group" "parts" "[LPostingPlanner$Part;", Cond.selects RX3 ⟨"PostingPlanner$Group", "partAt", "(I)LPostingPlanner$Part;"⟩ yX0_partAt, Cond.methodLink RX3 84 yX7_truthsOf, Cond.instanceMethod yX7_truthsOf, Cond.selects RX7 yX7_truthsOf yX7_truthsOf, Cond.code yX7_truthsOf cX7_truthsOf 5 (some .long), Cond.static yX10_isLiteralTrue, Cond.code yX10_isLiteralTrue cX10_isLiteralTrue 2 (some .boolean), Cond.methodLink RX3 90 yX4_make, Cond.instanceMethod yX4_make, Cond.selects RX4 yX4_make yX4_make, Cond.initialized RX4, Cond.code yX4_make cX4_make 6 none, Cond.fieldLink RX4 15 "PostingPlanner$PlannedLiteral" "there" "J", Cond.fieldLink RX4 19 "PostingPlanner$PlannedLiteral" "truths" "J", Cond.fieldLink RX4 22 "PostingPlanner$PlannedLiteral" "rank" "I", Cond.sameField "PostingPlanner$PlannedLiteral" "PostingPlanner$Part" "rank" "I", Cond.fieldLink RX4 32 "PostingPlanner$PlannedLiteral" "estimate" "I", Cond.sameField "PostingPlanner$PlannedLiteral" "PostingPlanner$Part" "estimate" "I"]
def wsX6_restart_r6 : List Cond := [Cond.fieldLink RX4 35 "PostingPlanner$PlannedLiteral" "place" "I", Cond.sameField "PostingPlanner$PlannedLiteral" "PostingPlanner$Part" "place" "I", Cond.methodLink RX4 26 yJ13_bitCount_95d88, Cond.static yJ13_bitCount_95d88, Cond.initialized RJ13, Cond.code yJ13_bitCount_95d88 cJ13_bitCount_95d88 2 (some .int), Cond.constantLong RJ13 314 (6148914691236517205), Cond.constantLong RJ13 316 (3689348814741910323), Cond.constantLong RJ13 318 (1085102592571150095), Cond.methodLink RX3 94 ⟨"PostingPlanner$PlannedClause", "keep", "(LPostingPlanner$Part;)V"⟩, Cond.sameMethod "PostingPlanner$PlannedClause" "PostingPlanner$Group" "keep" "(LPostingPlanner$Part;)V", Cond.selects RX3 ⟨"PostingPlanner$PlannedClause", "keep", "(LPostingPlanner$Part;)V"⟩ yX0_keep, Cond.instanceMethod yX0_keep, Cond.code yX0_keep cX0_keep 2 none, Cond.methodLink RX3 54 yX3_settleContraries, Cond.instanceMethod yX3_settleContraries, Cond.selects RX3 yX3_settleContraries yX3_settleContraries, Cond.code yX3_settleContraries cX3_settleContraries 3 none, Cond.fieldLink RX3 98 "PostingPlanner$PlannedClause" "size" "I", Cond.sameField "PostingPlanner$PlannedClause" "PostingPlanner$Group" "size" "I", Cond.fieldLink RX3 103 "PostingPlanner$Part" "rank" "I", Cond.methodLink RX3 99 ⟨"PostingPlanner$PlannedClause", "partAt", "(I)LPostingPlanner$Part;"⟩, Cond.sameMethod "PostingPlanner$PlannedClause" "PostingPlanner$Group" "partAt" "(I)LPostingPlanner$Part;", Cond.selects RX3 ⟨"PostingPlanner$PlannedClause", "partAt", "(I)LPostingPlanner$Part;"⟩ yX0_partAt]
def wsX6_restart_r7 : List Cond := [Cond.methodLink RX3 106 ⟨"PostingPlanner$PlannedClause", "fix", "(I)V"⟩, Cond.sameMethod "PostingPlanner$PlannedClause" "PostingPlanner$Group" "fix" "(I)V", Cond.selects RX3 ⟨"PostingPlanner$PlannedClause", "fix", "(I)V"⟩ yX0_fix, Cond.methodLink RX3 57 ⟨"PostingPlanner$PlannedClause", "settleEmpty", "()V"⟩, Cond.sameMethod "PostingPlanner$PlannedClause" "PostingPlanner$Group" "settleEmpty" "()V", Cond.selects RX3 ⟨"PostingPlanner$PlannedClause", "settleEmpty", "()V"⟩ yX0_settleEmpty, Cond.instanceMethod yX0_settleEmpty, Cond.code yX0_settleEmpty cX0_settleEmpty 1 none, Cond.methodLink RX3 60 ⟨"PostingPlanner$PlannedClause", "appraise", "()V"⟩, Cond.sameMethod "PostingPlanner$PlannedClause" "PostingPlanner$Group" "appraise" "()V", Cond.selects RX3 ⟨"PostingPlanner$PlannedClause", "appraise", "()V"⟩ yX0_appraise, Cond.instanceMethod yX0_appraise, Cond.code yX0_appraise cX0_appraise 2 none, Cond.fieldLink RX0 53 "PostingPlanner$Group" "estimate" "I", Cond.sameField "PostingPlanner$Group" "PostingPlanner$Part" "estimate" "I", Cond.methodLink RX0 60 Lib.Math.min.name, Cond.static Lib.Math.min.name, Cond.initialized "java/lang/Math", Cond.code Lib.Math.min.name Lib.Math.min.code 2 (some .int), Cond.methodLink RX0 43 yJ13_bitCount_95d88, Cond.methodLink RX0 49 ⟨"PostingPlanner$Group", "leastEstimate", "(I)I"⟩, Cond.sameMethod "PostingPlanner$Group" "PostingPlanner$Group" "leastEstimate" "(I)I", Cond.selects RX2 ⟨"PostingPlanner$Group", "leastEstimate", "(I)I"⟩ yX0_leastEstimate, Cond.instanceMethod yX0_leastEstimate]
def wsX6_restart_r8 : List Cond := [Cond.code yX0_leastEstimate cX0_leastEstimate 5 (some .int), Cond.fieldLink RX0 66 "PostingPlanner$Part" "estimate" "I", Cond.selects RX3 ⟨"PostingPlanner$Group", "leastEstimate", "(I)I"⟩ yX0_leastEstimate, Cond.methodLink RX0 56 ⟨"PostingPlanner$Group", "sumOfEstimates", "()I"⟩, Cond.sameMethod "PostingPlanner$Group" "PostingPlanner$Group" "sumOfEstimates" "()I", Cond.selects RX2 ⟨"PostingPlanner$Group", "sumOfEstimates", "()I"⟩ yX0_sumOfEstimates, Cond.instanceMethod yX0_sumOfEstimates, Cond.code yX0_sumOfEstimates cX0_sumOfEstimates 4 (some .int), Cond.selects RX3 ⟨"PostingPlanner$Group", "sumOfEstimates", "()I"⟩ yX0_sumOfEstimates, Cond.methodLink RX3 63 ⟨"PostingPlanner$PlannedClause", "order", "()V"⟩, Cond.sameMethod "PostingPlanner$PlannedClause" "PostingPlanner$Group" "order" "()V", Cond.selects RX3 ⟨"PostingPlanner$PlannedClause", "order", "()V"⟩ yX0_order, Cond.instanceMethod yX0_order, Cond.code yX0_order cX0_order 4 none, Cond.methodLink RX0 67 ⟨"PostingPlanner$Group", "isBefore", "(LPostingPlanner$Part;LPostingPlanner$Part;)Z"⟩, Cond.sameMethod "PostingPlanner$Group" "PostingPlanner$Group" "isBefore" "(LPostingPlanner$Part;LPostingPlanner$Part;)Z", Cond.selects RX2 ⟨"PostingPlanner$Group", "isBefore", "(LPostingPlanner$Part;LPostingPlanner$Part;)Z"⟩ yX0_isBefore, Cond.instanceMethod yX0_isBefore, Cond.code yX0_isBefore cX0_isBefore 3 (some .boolean), Cond.selects RX3 ⟨"PostingPlanner$Group", "isBefore", "(LPostingPlanner$Part;LPostingPlanner$Part;)Z"⟩ yX0_isBefore, Cond.methodLink RX2 51 yX2_takeIn, Cond.instanceMethod yX2_takeIn, Cond.selects RX2 yX2_takeIn yX2_takeIn, Cond.code yX2_takeIn cX2_takeIn 2 none]
def wsX6_restart_r9 : List Cond := [Cond.fieldLink RX2 76 "PostingPlanner$PlannedClause" "kind" "I", Cond.fieldLink RX2 77 "PostingPlanner$Plan" "kind" "I", Cond.sameField "PostingPlanner$Plan" "PostingPlanner$Group" "kind" "I", Cond.fieldLink RX2 78 "PostingPlanner$Plan" "need" "I", Cond.sameField "PostingPlanner$Plan" "PostingPlanner$Group" "need" "I", Cond.methodLink RX2 71 ⟨"PostingPlanner$PlannedClause", "isFixed", "()Z"⟩, Cond.methodLink RX2 72 ⟨"PostingPlanner$Plan", "keep", "(LPostingPlanner$Part;)V"⟩, Cond.sameMethod "PostingPlanner$Plan" "PostingPlanner$Group" "keep" "(LPostingPlanner$Part;)V", Cond.selects RX2 ⟨"PostingPlanner$Plan", "keep", "(LPostingPlanner$Part;)V"⟩ yX0_keep, Cond.methodLink RX2 79 ⟨"PostingPlanner$Plan", "fix", "(I)V"⟩, Cond.sameMethod "PostingPlanner$Plan" "PostingPlanner$Group" "fix" "(I)V", Cond.selects RX2 ⟨"PostingPlanner$Plan", "fix", "(I)V"⟩ yX0_fix, Cond.methodLink RX2 58 ⟨"PostingPlanner$Plan", "settleSome", "(I)V"⟩, Cond.sameMethod "PostingPlanner$Plan" "PostingPlanner$Group" "settleSome" "(I)V", Cond.selects RX2 ⟨"PostingPlanner$Plan", "settleSome", "(I)V"⟩ yX0_settleSome, Cond.methodLink RX2 62 ⟨"PostingPlanner$Plan", "settleEmpty", "()V"⟩, Cond.sameMethod "PostingPlanner$Plan" "PostingPlanner$Group" "settleEmpty" "()V", Cond.selects RX2 ⟨"PostingPlanner$Plan", "settleEmpty", "()V"⟩ yX0_settleEmpty, Cond.methodLink RX2 65 ⟨"PostingPlanner$Plan", "appraise", "()V"⟩, Cond.sameMethod "PostingPlanner$Plan" "PostingPlanner$Group" "appraise" "()V", Cond.selects RX2 ⟨"PostingPlanner$Plan", "appraise", "()V"⟩ yX0_appraise, Cond.methodLink RX2 68 ⟨"PostingPlanner$Plan", "order", "()V"⟩, Cond.sameMethod "PostingPlanner$Plan" "PostingPlanner$Group" "order" "()V", Cond.selects RX2 ⟨"PostingPlanner$Plan", "order", "()V"⟩ yX0_order]
def wsX6_restart : List Cond := .code yX6_restart cX6_restart 3 (some .int) :: ((wsX6_restart_r1 ++ (wsX6_restart_r2 ++ (wsX6_restart_r3 ++ (wsX6_restart_r4 ++ (wsX6_restart_r5 ++ (wsX6_restart_r6 ++ (wsX6_restart_r7 ++ (wsX6_restart_r8 ++ wsX6_restart_r9)))))))) ++ wsX60 ++ wsX80 ++ wsX20 ++ wsX30 ++ wsX40 ++ wsX50 ++ wsX70 ++ wsX90)
def wsX6_advance_r1 : List Cond := [Cond.fieldLink RX6 39 "PostingPlanner$Run" "given" "I", Cond.methodLink RX6 45 Lib.Math.max.name, Cond.static Lib.Math.max.name, Cond.initialized "java/lang/Math", Cond.code Lib.Math.max.name Lib.Math.max.code 2 (some .int), Cond.fieldLink RX6 23 "PostingPlanner$Run" "plan" "LPostingPlanner$Plan;", Cond.methodLink RX6 51 ⟨"PostingPlanner$Plan", "seek", "(II)I"⟩, Cond.sameMethod "PostingPlanner$Plan" "PostingPlanner$Group" "seek" "(II)I", Cond.selects RX2 ⟨"PostingPlanner$Plan", "seek", "(II)I"⟩ yX0_seek, Cond.instanceMethod yX0_seek, Cond.initialized RX0, Cond.code yX0_seek cX0_seek 3 (some .int), Cond.fieldLink RX0 29 "PostingPlanner$Group" "place" "I", Cond.sameField "PostingPlanner$Group" "PostingPlanner$Part" "place" "I", Cond.fieldLink RX0 15 "PostingPlanner$Group" "kind" "I", Cond.fieldLink RX0 25 "PostingPlanner$Group" "there" "J", Cond.methodLink RX0 71 ⟨"PostingPlanner$Group", "seekAll", "(II)I"⟩, Cond.sameMethod "PostingPlanner$Group" "PostingPlanner$Group" "seekAll" "(II)I", Cond.selects RX2 ⟨"PostingPlanner$Group", "seekAll", "(II)I"⟩ yX0_seekAll, Cond.instanceMethod yX0_seekAll, Cond.selects RX3 ⟨"PostingPlanner$Group", "seekAll", "(II)I"⟩ yX0_seekAll, Cond.methodLink RX0 74 ⟨"PostingPlanner$Group", "seekAny", "(II)I"⟩, Cond.sameMethod "PostingPlanner$Group" "PostingPlanner$Group" "seekAny" "(II)I", Cond.selects RX2 ⟨"PostingPlanner$Group", "seekAny", "(II)I"⟩ yX0_seekAny]
def wsX6_advance_r2 : List Cond := [Cond.instanceMethod yX0_seekAny, Cond.selects RX3 ⟨"PostingPlanner$Group", "seekAny", "(II)I"⟩ yX0_seekAny, Cond.methodLink RX0 77 ⟨"PostingPlanner$Group", "seekSome", "(II)I"⟩, Cond.sameMethod "PostingPlanner$Group" "PostingPlanner$Group" "seekSome" "(II)I", Cond.selects RX2 ⟨"PostingPlanner$Group", "seekSome", "(II)I"⟩ yX0_seekSome, Cond.instanceMethod yX0_seekSome, Cond.selects RX3 ⟨"PostingPlanner$Group", "seekSome", "(II)I"⟩ yX0_seekSome, Cond.static yX10_firstOf, Cond.initialized RX10, Cond.code yX10_firstOf cX10_firstOf 4 (some .int), Cond.code yX0_seekAll cX0_seekAll 8 (some .int), Cond.fieldLink RX0 22 "PostingPlanner$Group" "size" "I", Cond.methodLink RX0 32 ⟨"PostingPlanner$Group", "partAt", "(I)LPostingPlanner$Part;"⟩, Cond.sameMethod "PostingPlanner$Group" "PostingPlanner$Group" "partAt" "(I)LPostingPlanner$Part;", Cond.selects RX2 ⟨"PostingPlanner$Group", "partAt", "(I)LPostingPlanner$Part;"⟩ yX0_partAt, Cond.instanceMethod yX0_partAt, Cond.code yX0_partAt cX0_partAt 2 (some (.object "PostingPlanner$Part")), Cond.fieldLink RX0 9 "PostingPlanner$Group" "parts" "[LPostingPlanner$Part;", Cond.selects RX3 ⟨"PostingPlanner$Group", "partAt", "(I)LPostingPlanner$Part;"⟩ yX0_partAt, Cond.methodLink RX0 84 ⟨"PostingPlanner$Part", "seek", "(II)I"⟩, Cond.sameMethod "PostingPlanner$Part" "PostingPlanner$Part" "seek" "(II)I", Cond.selects RX2 ⟨"PostingPlanner$Part", "seek", "(II)I"⟩ yX0_seek, Cond.selects RX3 ⟨"PostingPlanner$Part", "seek", "(II)I"⟩ yX0_seek, Cond.selects RX4 ⟨"PostingPlanner$Part", "seek", "(II)I"⟩ yX4_seek]
def wsX6_advance_r3 : List Cond := [Cond.instanceMethod yX4_seek, Cond.initialized RX4, Cond.code yX4_seek cX4_seek 3 (some .int), Cond.fieldLink RX4 35 "PostingPlanner$PlannedLiteral" "place" "I", Cond.sameField "PostingPlanner$PlannedLiteral" "PostingPlanner$Part" "place" "I", Cond.fieldLink RX4 19 "PostingPlanner$PlannedLiteral" "truths" "J", Cond.fieldLink RX4 9 "PostingPlanner$PlannedLiteral" "tally" "LPostingPlanner$Tally;", Cond.fieldLink RX4 42 "PostingPlanner$Tally" "sum" "I", Cond.methodLink RX4 47 yX4_cost, Cond.instanceMethod yX4_cost, Cond.selects RX4 yX4_cost yX4_cost, Cond.code yX4_cost cX4_cost 4 (some .int), Cond.fieldLink RX4 22 "PostingPlanner$PlannedLiteral" "rank" "I", Cond.sameField "PostingPlanner$PlannedLiteral" "PostingPlanner$Part" "rank" "I", Cond.fieldLink RX4 15 "PostingPlanner$PlannedLiteral" "there" "J", Cond.methodLink RX4 26 yJ13_bitCount_95d88, Cond.static yJ13_bitCount_95d88, Cond.initialized RJ13, Cond.code yJ13_bitCount_95d88 cJ13_bitCount_95d88 2 (some .int), Cond.constantLong RJ13 314 (6148914691236517205), Cond.constantLong RJ13 316 (3689348814741910323), Cond.constantLong RJ13 318 (1085102592571150095), Cond.code yX0_seekAny cX0_seekAny 6 (some .int), Cond.methodLink RX0 60 Lib.Math.min.name]
def wsX6_advance_r4 : List Cond := [Cond.static Lib.Math.min.name, Cond.code Lib.Math.min.name Lib.Math.min.code 2 (some .int), Cond.code yX0_seekSome cX0_seekSome 6 (some .int), Cond.methodLink RX0 87 ⟨"PostingPlanner$Group", "neededPlace", "()I"⟩, Cond.sameMethod "PostingPlanner$Group" "PostingPlanner$Group" "neededPlace" "()I", Cond.selects RX2 ⟨"PostingPlanner$Group", "neededPlace", "()I"⟩ yX0_neededPlace, Cond.instanceMethod yX0_neededPlace, Cond.code yX0_neededPlace cX0_neededPlace 4 (some .int), Cond.fieldLink RX0 90 "PostingPlanner$Part" "place" "I", Cond.fieldLink RX0 19 "PostingPlanner$Group" "need" "I", Cond.methodLink RX0 91 ⟨"PostingPlanner$Group", "placesUpTo", "(I)I"⟩, Cond.sameMethod "PostingPlanner$Group" "PostingPlanner$Group" "placesUpTo" "(I)I", Cond.selects RX2 ⟨"PostingPlanner$Group", "placesUpTo", "(I)I"⟩ yX0_placesUpTo, Cond.instanceMethod yX0_placesUpTo, Cond.code yX0_placesUpTo cX0_placesUpTo 5 (some .int), Cond.selects RX3 ⟨"PostingPlanner$Group", "placesUpTo", "(I)I"⟩ yX0_placesUpTo, Cond.selects RX3 ⟨"PostingPlanner$Group", "neededPlace", "()I"⟩ yX0_neededPlace]
def wsX6_advance : List Cond := .code yX6_advance cX6_advance 4 (some .int) :: ((wsX6_advance_r1 ++ (wsX6_advance_r2 ++ (wsX6_advance_r3 ++ wsX6_advance_r4))) ++ wsX60 ++ wsX20 ++ wsX30 ++ wsX40 ++ wsX80)
def wsJ7_fill_53178 : List Cond := .code yJ7_fill_53178 cJ7_fill_53178 4 none :: ([])
def wsX7_init : List Cond := .code yX7_init cX7_init 1 none :: ([.methodLink RX7 3 objectInit, .instanceMethod objectInit, .code objectInit ⟨#[0xb1]⟩ 1 none, .arrayClass .int, .fieldLink RX7 9 "PostingPlanner$Shelf" "words" "[I", .methodLink RX7 15 yJ7_fill_53178, .static yJ7_fill_53178, .initialized RJ7, .code yJ7_fill_53178 cJ7_fill_53178 4 none] ++ wsX70)
def wsX7_wordsAt : List Cond := .code yX7_wordsAt cX7_wordsAt 2 (some .int) :: ([.fieldLink RX7 9 "PostingPlanner$Shelf" "words" "[I"] ++ wsX70)
def wsX7_replace : List Cond := .code yX7_replace cX7_replace 4 (some .boolean) :: ([.fieldLink RX7 9 "PostingPlanner$Shelf" "words" "[I"] ++ wsX70)
def wsX9_append : List Cond := .code yX9_append cX9_append 2 (some .boolean) :: ([.fieldLink RX9 26 "PostingPlanner$ToldClause" "size" "I", .fieldLink RX9 9 "PostingPlanner$ToldClause" "codes" "[I"] ++ wsX90)
def wsX10_init_r1 : List Cond := [Cond.methodLink RX10 1 objectInit, Cond.instanceMethod objectInit, Cond.code objectInit ⟨#[0xb1]⟩ 1 none, Cond.classLink RX10 7 RX7, Cond.instantiable RX7 1, Cond.initialized RX7, Cond.fieldLink RX10 10 "PostingPlanner" "shelf" "LPostingPlanner$Shelf;", Cond.classLink RX10 16 RX5, Cond.instantiable RX5 4, Cond.initialized RX5, Cond.fieldLink RX10 19 "PostingPlanner" "question" "LPostingPlanner$Question;", Cond.classLink RX10 23 RX2, Cond.instantiable RX2 9, Cond.initialized RX2, Cond.classLink RX10 25 RX8, Cond.instantiable RX8 1, Cond.initialized RX8, Cond.fieldLink RX10 31 "PostingPlanner" "plan" "LPostingPlanner$Plan;", Cond.classLink RX10 35 RX6, Cond.instantiable RX6 4, Cond.initialized RX6, Cond.fieldLink RX10 38 "PostingPlanner" "run" "LPostingPlanner$Run;", Cond.methodLink RX10 9 yX7_init, Cond.instanceMethod yX7_init]
def wsX10_init_r2 : List Cond := [Cond.code yX7_init cX7_init 1 none, Cond.methodLink RX7 3 objectInit, Cond.arrayClass .int, Cond.fieldLink RX7 9 "PostingPlanner$Shelf" "words" "[I", Cond.methodLink RX7 15 yJ7_fill_53178, Cond.static yJ7_fill_53178, Cond.initialized RJ7, Cond.code yJ7_fill_53178 cJ7_fill_53178 4 none, Cond.methodLink RX10 18 yX5_init, Cond.instanceMethod yX5_init, Cond.code yX5_init cX5_init 2 none, Cond.methodLink RX5 3 objectInit, Cond.classLink RX5 9 RX9, Cond.fieldLink RX5 11 "PostingPlanner$Question" "clauses" "[LPostingPlanner$ToldClause;", Cond.instantiable RX9 5, Cond.initialized RX9, Cond.fieldLink RX5 18 "PostingPlanner$Question" "kind" "I", Cond.methodLink RX5 17 yX9_init, Cond.instanceMethod yX9_init, Cond.code yX9_init cX9_init 1 none, Cond.methodLink RX9 3 objectInit, Cond.fieldLink RX9 9 "PostingPlanner$ToldClause" "codes" "[I", Cond.instanceMethod yX8_init, Cond.code yX8_init cX8_init 1 none]
def wsX10_init_r3 : List Cond := [Cond.methodLink RX8 1 objectInit, Cond.methodLink RX10 28 yX2_init, Cond.instanceMethod yX2_init, Cond.code yX2_init cX2_init 3 none, Cond.classLink RX2 9 RX3, Cond.fieldLink RX2 11 "PostingPlanner$Plan" "clauses" "[LPostingPlanner$PlannedClause;", Cond.instantiable RX3 9, Cond.initialized RX3, Cond.methodLink RX2 3 yX0_init, Cond.instanceMethod yX0_init, Cond.initialized RX0, Cond.code yX0_init cX0_init 1 none, Cond.classLink RX0 4 RX1, Cond.fieldLink RX0 9 "PostingPlanner$Group" "parts" "[LPostingPlanner$Part;", Cond.instanceMethod yX1_init, Cond.initialized RX1, Cond.code yX1_init cX1_init 1 none, Cond.methodLink RX1 1 objectInit, Cond.methodLink RX2 17 yX3_init, Cond.instanceMethod yX3_init, Cond.code yX3_init cX3_init 4 none, Cond.fieldLink RX3 9 "PostingPlanner$PlannedClause" "rank" "I", Cond.sameField "PostingPlanner$PlannedClause" "PostingPlanner$Part" "rank" "I", Cond.classLink RX3 15 RX4]
def wsX10_init_r4 : List Cond := [Cond.fieldLink RX3 17 "PostingPlanner$PlannedClause" "literals" "[LPostingPlanner$PlannedLiteral;", Cond.instantiable RX4 6, Cond.initialized RX4, Cond.methodLink RX3 3 yX0_init, Cond.methodLink RX3 21 yX4_init, Cond.instanceMethod yX4_init, Cond.code yX4_init cX4_init 2 none, Cond.fieldLink RX4 9 "PostingPlanner$PlannedLiteral" "tally" "LPostingPlanner$Tally;", Cond.methodLink RX10 37 yX6_init, Cond.instanceMethod yX6_init, Cond.code yX6_init cX6_init 1 none, Cond.methodLink RX6 3 objectInit, Cond.classLink RX6 9 RX8, Cond.fieldLink RX6 12 "PostingPlanner$Run" "tally" "LPostingPlanner$Tally;", Cond.classLink RX6 18 RX2, Cond.fieldLink RX6 23 "PostingPlanner$Run" "plan" "LPostingPlanner$Plan;", Cond.methodLink RX6 20 yX2_init]
def wsX10_init : List Cond := .code yX10_init cX10_init 1 none :: ((wsX10_init_r1 ++ (wsX10_init_r2 ++ (wsX10_init_r3 ++ wsX10_init_r4))) ++ wsX70 ++ wsX100 ++ wsX50 ++ wsX20 ++ wsX80 ++ wsX60 ++ wsX90 ++ wsX30 ++ wsX40)
def wsX10_checkDocument : List Cond := .code yX10_checkDocument cX10_checkDocument 2 none :: ([.classLink RX10 99 "java/lang/IndexOutOfBoundsException", .initialized "java/lang/IndexOutOfBoundsException"] ++ (vx_atS RX10 103 "java/lang/IndexOutOfBoundsException" ["java/lang/RuntimeException", "java/lang/Exception"]).filter goodWord)
def wsX10_put : List Cond := .code yX10_put cX10_put 3 (some .boolean) :: ([.classLink RX10 46 "java/lang/IllegalArgumentException", .initialized "java/lang/IllegalArgumentException", .fieldLink RX10 10 "PostingPlanner" "shelf" "LPostingPlanner$Shelf;", .methodLink RX10 42 yX10_checkDocument, .instanceMethod yX10_checkDocument, .selects RX10 yX10_checkDocument yX10_checkDocument, .initialized RX10, .code yX10_checkDocument cX10_checkDocument 2 none, .classLink RX10 99 "java/lang/IndexOutOfBoundsException", .initialized "java/lang/IndexOutOfBoundsException", .methodLink RX10 53 yX7_replace, .instanceMethod yX7_replace, .selects RX7 yX7_replace yX7_replace, .initialized RX7, .code yX7_replace cX7_replace 4 (some .boolean), .fieldLink RX7 9 "PostingPlanner$Shelf" "words" "[I"] ++ wsX100 ++ wsX70 ++ (vx_atS RX10 50 "java/lang/IllegalArgumentException" ["java/lang/RuntimeException", "java/lang/Exception"]).filter goodWord ++ (vx_atS RX10 103 "java/lang/IndexOutOfBoundsException" ["java/lang/RuntimeException", "java/lang/Exception"]).filter goodWord)
def wsX10_drop : List Cond := .code yX10_drop cX10_drop 2 (some .boolean) :: ([.fieldLink RX10 10 "PostingPlanner" "shelf" "LPostingPlanner$Shelf;", .methodLink RX10 42 yX10_checkDocument, .instanceMethod yX10_checkDocument, .selects RX10 yX10_checkDocument yX10_checkDocument, .initialized RX10, .code yX10_checkDocument cX10_checkDocument 2 none, .classLink RX10 99 "java/lang/IndexOutOfBoundsException", .initialized "java/lang/IndexOutOfBoundsException", .methodLink RX10 53 yX7_replace, .instanceMethod yX7_replace, .selects RX7 yX7_replace yX7_replace, .initialized RX7, .code yX7_replace cX7_replace 4 (some .boolean), .fieldLink RX7 9 "PostingPlanner$Shelf" "words" "[I"] ++ wsX100 ++ wsX70 ++ (vx_atS RX10 103 "java/lang/IndexOutOfBoundsException" ["java/lang/RuntimeException", "java/lang/Exception"]).filter goodWord)
def wsX10_documents : List Cond := .code yX10_documents cX10_documents 1 (some .int) :: ([.fieldLink RX10 10 "PostingPlanner" "shelf" "LPostingPlanner$Shelf;", .methodLink RX10 57 yX7_allThere, .instanceMethod yX7_allThere, .selects RX7 yX7_allThere yX7_allThere, .initialized RX7, .code yX7_allThere cX7_allThere 4 (some .long), .fieldLink RX7 9 "PostingPlanner$Shelf" "words" "[I", .methodLink RX10 61 yJ13_bitCount_95d88, .static yJ13_bitCount_95d88, .initialized RJ13, .code yJ13_bitCount_95d88 cJ13_bitCount_95d88 2 (some .int), .constantLong RJ13 314 (6148914691236517205), .constantLong RJ13 316 (3689348814741910323), .constantLong RJ13 318 (1085102592571150095)] ++ wsX100 ++ wsX70)
def wsX10_checkWord : List Cond := .code yX10_checkWord cX10_checkWord 2 none :: ([.classLink RX10 99 "java/lang/IndexOutOfBoundsException", .initialized "java/lang/IndexOutOfBoundsException"] ++ (vx_atS RX10 103 "java/lang/IndexOutOfBoundsException" ["java/lang/RuntimeException", "java/lang/Exception"]).filter goodWord)
def wsX10_codeOf : List Cond := .code yX10_codeOf cX10_codeOf 2 (some .int) :: ([])
def wsX10_count_r1 : List Cond := [Cond.fieldLink RX10 10 "PostingPlanner" "shelf" "LPostingPlanner$Shelf;", Cond.methodLink RX10 67 yX10_checkWord, Cond.instanceMethod yX10_checkWord, Cond.selects RX10 yX10_checkWord yX10_checkWord, Cond.initialized RX10, Cond.code yX10_checkWord cX10_checkWord 2 none, Cond.classLink RX10 99 "java/lang/IndexOutOfBoundsException", Cond.initialized "java/lang/IndexOutOfBoundsException", Cond.methodLink RX10 70 yX10_codeOf, Cond.static yX10_codeOf, Cond.code yX10_codeOf cX10_codeOf 2 (some .int), Cond.methodLink RX10 74 yX7_truthsOf, Cond.instanceMethod yX7_truthsOf, Cond.selects RX7 yX7_truthsOf yX7_truthsOf, Cond.initialized RX7, Cond.code yX7_truthsOf cX7_truthsOf 5 (some .long), Cond.fieldLink RX7 9 "PostingPlanner$Shelf" "words" "[I", Cond.static yX10_isLiteralTrue, Cond.code yX10_isLiteralTrue cX10_isLiteralTrue 2 (some .boolean), Cond.methodLink RX10 61 yJ13_bitCount_95d88, Cond.static yJ13_bitCount_95d88, Cond.initialized RJ13, Cond.code yJ13_bitCount_95d88 cJ13_bitCount_95d88 2 (some .int), Cond.constantLong RJ13 314 (6148914691236517205)]
def wsX10_count_r2 : List Cond := [Cond.constantLong RJ13 316 (3689348814741910323), Cond.constantLong RJ13 318 (1085102592571150095)]
def wsX10_count : List Cond := .code yX10_count cX10_count 2 (some .int) :: ((wsX10_count_r1 ++ wsX10_count_r2) ++ wsX100 ++ wsX70 ++ (vx_atS RX10 103 "java/lang/IndexOutOfBoundsException" ["java/lang/RuntimeException", "java/lang/Exception"]).filter goodWord)
def wsX10_checkKindAndNeed : List Cond := .code yX10_checkKindAndNeed cX10_checkKindAndNeed 6 none :: ([.classLink RX10 46 "java/lang/IllegalArgumentException", .initialized "java/lang/IllegalArgumentException"] ++ (vx_atS RX10 50 "java/lang/IllegalArgumentException" ["java/lang/RuntimeException", "java/lang/Exception"]).filter goodWord)
def wsX10_ask : List Cond := .code yX10_ask cX10_ask 3 (some .int) :: ([.fieldLink RX10 19 "PostingPlanner" "question" "LPostingPlanner$Question;", .methodLink RX10 78 yX10_checkKindAndNeed, .instanceMethod yX10_checkKindAndNeed, .selects RX10 yX10_checkKindAndNeed yX10_checkKindAndNeed, .initialized RX10, .code yX10_checkKindAndNeed cX10_checkKindAndNeed 6 none, .classLink RX10 46 "java/lang/IllegalArgumentException", .initialized "java/lang/IllegalArgumentException", .methodLink RX10 82 yX5_restart, .instanceMethod yX5_restart, .selects RX5 yX5_restart yX5_restart, .initialized RX5, .code yX5_restart cX5_restart 4 (some .int), .fieldLink RX5 22 "PostingPlanner$Question" "size" "I", .fieldLink RX5 18 "PostingPlanner$Question" "kind" "I", .fieldLink RX5 25 "PostingPlanner$Question" "need" "I"] ++ wsX100 ++ wsX50 ++ (vx_atS RX10 50 "java/lang/IllegalArgumentException" ["java/lang/RuntimeException", "java/lang/Exception"]).filter goodWord)
def wsX10_clause_r1 : List Cond := [Cond.classLink RX10 90 "java/lang/IllegalStateException", Cond.initialized "java/lang/IllegalStateException", Cond.fieldLink RX10 19 "PostingPlanner" "question" "LPostingPlanner$Question;", Cond.methodLink RX10 78 yX10_checkKindAndNeed, Cond.instanceMethod yX10_checkKindAndNeed, Cond.selects RX10 yX10_checkKindAndNeed yX10_checkKindAndNeed, Cond.initialized RX10, Cond.code yX10_checkKindAndNeed cX10_checkKindAndNeed 6 none, Cond.classLink RX10 46 "java/lang/IllegalArgumentException", Cond.initialized "java/lang/IllegalArgumentException", Cond.methodLink RX10 86 yX5_append, Cond.instanceMethod yX5_append, Cond.selects RX5 yX5_append yX5_append, Cond.initialized RX5, Cond.code yX5_append cX5_append 4 (some .int), Cond.fieldLink RX5 22 "PostingPlanner$Question" "size" "I", Cond.fieldLink RX5 11 "PostingPlanner$Question" "clauses" "[LPostingPlanner$ToldClause;", Cond.methodLink RX5 28 yX9_restart, Cond.instanceMethod yX9_restart, Cond.selects RX9 yX9_restart yX9_restart, Cond.initialized RX9, Cond.code yX9_restart cX9_restart 4 none, Cond.fieldLink RX9 15 "PostingPlanner$ToldClause" "kind" "I", Cond.fieldLink RX9 19 "PostingPlanner$ToldClause" "need" "I"]
def wsX10_clause_r2 : List Cond := [Cond.fieldLink RX9 22 "PostingPlanner$ToldClause" "isNegated" "Z", Cond.fieldLink RX9 26 "PostingPlanner$ToldClause" "size" "I"]
def wsX10_clause : List Cond := .code yX10_clause cX10_clause 5 (some .int) :: ((wsX10_clause_r1 ++ wsX10_clause_r2) ++ wsX100 ++ wsX50 ++ wsX90 ++ (vx_atS RX10 94 "java/lang/IllegalStateException" ["java/lang/RuntimeException", "java/lang/Exception"]).filter goodWord ++ (vx_atS RX10 50 "java/lang/IllegalArgumentException" ["java/lang/RuntimeException", "java/lang/Exception"]).filter goodWord)
def wsX10_literal_r1 : List Cond := [Cond.classLink RX10 99 "java/lang/IndexOutOfBoundsException", Cond.initialized "java/lang/IndexOutOfBoundsException", Cond.classLink RX10 90 "java/lang/IllegalStateException", Cond.initialized "java/lang/IllegalStateException", Cond.fieldLink RX10 19 "PostingPlanner" "question" "LPostingPlanner$Question;", Cond.fieldLink RX10 111 "PostingPlanner$ToldClause" "size" "I", Cond.methodLink RX10 95 yX5_toldAt, Cond.instanceMethod yX5_toldAt, Cond.selects RX5 yX5_toldAt yX5_toldAt, Cond.initialized RX5, Cond.code yX5_toldAt cX5_toldAt 2 (some (.object "PostingPlanner$ToldClause")), Cond.fieldLink RX5 22 "PostingPlanner$Question" "size" "I", Cond.fieldLink RX5 11 "PostingPlanner$Question" "clauses" "[LPostingPlanner$ToldClause;", Cond.methodLink RX10 67 yX10_checkWord, Cond.instanceMethod yX10_checkWord, Cond.selects RX10 yX10_checkWord yX10_checkWord, Cond.initialized RX10, Cond.code yX10_checkWord cX10_checkWord 2 none, Cond.methodLink RX10 70 yX10_codeOf, Cond.static yX10_codeOf, Cond.code yX10_codeOf cX10_codeOf 2 (some .int), Cond.methodLink RX10 104 yX9_append, Cond.instanceMethod yX9_append, Cond.selects RX9 yX9_append yX9_append]
def wsX10_literal_r2 : List Cond := [Cond.initialized RX9, Cond.code yX9_append cX9_append 2 (some .boolean), Cond.fieldLink RX9 26 "PostingPlanner$ToldClause" "size" "I", Cond.fieldLink RX9 9 "PostingPlanner$ToldClause" "codes" "[I"]
def wsX10_literal : List Cond := .code yX10_literal cX10_literal 5 (some .int) :: ((wsX10_literal_r1 ++ wsX10_literal_r2) ++ wsX100 ++ wsX90 ++ wsX50 ++ (vx_atS RX10 103 "java/lang/IndexOutOfBoundsException" ["java/lang/RuntimeException", "java/lang/Exception"]).filter goodWord ++ (vx_atS RX10 94 "java/lang/IllegalStateException" ["java/lang/RuntimeException", "java/lang/Exception"]).filter goodWord)
def wsX10_isHit_r1 : List Cond := [Cond.fieldLink RX10 10 "PostingPlanner" "shelf" "LPostingPlanner$Shelf;", Cond.fieldLink RX10 19 "PostingPlanner" "question" "LPostingPlanner$Question;", Cond.methodLink RX10 183 yX7_wordsAt, Cond.instanceMethod yX7_wordsAt, Cond.selects RX7 yX7_wordsAt yX7_wordsAt, Cond.initialized RX7, Cond.code yX7_wordsAt cX7_wordsAt 2 (some .int), Cond.fieldLink RX7 9 "PostingPlanner$Shelf" "words" "[I", Cond.methodLink RX10 186 yX5_isTrueOf, Cond.instanceMethod yX5_isTrueOf, Cond.selects RX5 yX5_isTrueOf yX5_isTrueOf, Cond.initialized RX5, Cond.code yX5_isTrueOf cX5_isTrueOf 5 (some .boolean), Cond.fieldLink RX5 22 "PostingPlanner$Question" "size" "I", Cond.fieldLink RX5 18 "PostingPlanner$Question" "kind" "I", Cond.fieldLink RX5 25 "PostingPlanner$Question" "need" "I", Cond.methodLink RX5 32 yX5_toldAt, Cond.instanceMethod yX5_toldAt, Cond.selects RX5 yX5_toldAt yX5_toldAt, Cond.code yX5_toldAt cX5_toldAt 2 (some (.object "PostingPlanner$ToldClause")), Cond.fieldLink RX5 11 "PostingPlanner$Question" "clauses" "[LPostingPlanner$ToldClause;", Cond.methodLink RX5 36 yX9_isTrueOf, Cond.instanceMethod yX9_isTrueOf, Cond.selects RX9 yX9_isTrueOf yX9_isTrueOf]
def wsX10_isHit_r2 : List Cond := [Cond.initialized RX9, Cond.code yX9_isTrueOf cX9_isTrueOf 4 (some .boolean), Cond.fieldLink RX9 26 "PostingPlanner$ToldClause" "size" "I", Cond.fieldLink RX9 9 "PostingPlanner$ToldClause" "codes" "[I", Cond.fieldLink RX9 15 "PostingPlanner$ToldClause" "kind" "I", Cond.fieldLink RX9 19 "PostingPlanner$ToldClause" "need" "I", Cond.fieldLink RX9 22 "PostingPlanner$ToldClause" "isNegated" "Z", Cond.static yX10_isLiteralTrue, Cond.initialized RX10, Cond.code yX10_isLiteralTrue cX10_isLiteralTrue 2 (some .boolean), Cond.static yX10_isEnough, Cond.code yX10_isEnough cX10_isEnough 4 (some .boolean)]
def wsX10_isHit : List Cond := .code yX10_isHit cX10_isHit 3 (some .boolean) :: ((wsX10_isHit_r1 ++ wsX10_isHit_r2) ++ wsX100 ++ wsX70 ++ wsX50 ++ wsX90)
def wsX10_matches_r1 : List Cond := [Cond.methodLink RX10 42 yX10_checkDocument, Cond.instanceMethod yX10_checkDocument, Cond.selects RX10 yX10_checkDocument yX10_checkDocument, Cond.initialized RX10, Cond.code yX10_checkDocument cX10_checkDocument 2 none, Cond.classLink RX10 99 "java/lang/IndexOutOfBoundsException", Cond.initialized "java/lang/IndexOutOfBoundsException", Cond.methodLink RX10 115 yX10_isHit, Cond.instanceMethod yX10_isHit, Cond.selects RX10 yX10_isHit yX10_isHit, Cond.code yX10_isHit cX10_isHit 3 (some .boolean), Cond.fieldLink RX10 10 "PostingPlanner" "shelf" "LPostingPlanner$Shelf;", Cond.fieldLink RX10 19 "PostingPlanner" "question" "LPostingPlanner$Question;", Cond.methodLink RX10 183 yX7_wordsAt, Cond.instanceMethod yX7_wordsAt, Cond.selects RX7 yX7_wordsAt yX7_wordsAt, Cond.initialized RX7, Cond.code yX7_wordsAt cX7_wordsAt 2 (some .int), Cond.fieldLink RX7 9 "PostingPlanner$Shelf" "words" "[I", Cond.methodLink RX10 186 yX5_isTrueOf, Cond.instanceMethod yX5_isTrueOf, Cond.selects RX5 yX5_isTrueOf yX5_isTrueOf, Cond.initialized RX5, Cond.code yX5_isTrueOf cX5_isTrueOf 5 (some .boolean)]
def wsX10_matches_r2 : List Cond := [Cond.fieldLink RX5 22 "PostingPlanner$Question" "size" "I", Cond.fieldLink RX5 18 "PostingPlanner$Question" "kind" "I", Cond.fieldLink RX5 25 "PostingPlanner$Question" "need" "I", Cond.methodLink RX5 32 yX5_toldAt, Cond.instanceMethod yX5_toldAt, Cond.selects RX5 yX5_toldAt yX5_toldAt, Cond.code yX5_toldAt cX5_toldAt 2 (some (.object "PostingPlanner$ToldClause")), Cond.fieldLink RX5 11 "PostingPlanner$Question" "clauses" "[LPostingPlanner$ToldClause;", Cond.methodLink RX5 36 yX9_isTrueOf, Cond.instanceMethod yX9_isTrueOf, Cond.selects RX9 yX9_isTrueOf yX9_isTrueOf, Cond.initialized RX9, Cond.code yX9_isTrueOf cX9_isTrueOf 4 (some .boolean), Cond.fieldLink RX9 26 "PostingPlanner$ToldClause" "size" "I", Cond.fieldLink RX9 9 "PostingPlanner$ToldClause" "codes" "[I", Cond.fieldLink RX9 15 "PostingPlanner$ToldClause" "kind" "I", Cond.fieldLink RX9 19 "PostingPlanner$ToldClause" "need" "I", Cond.fieldLink RX9 22 "PostingPlanner$ToldClause" "isNegated" "Z", Cond.static yX10_isLiteralTrue, Cond.code yX10_isLiteralTrue cX10_isLiteralTrue 2 (some .boolean), Cond.static yX10_isEnough, Cond.code yX10_isEnough cX10_isEnough 4 (some .boolean)]
def wsX10_matches : List Cond := .code yX10_matches cX10_matches 2 (some .boolean) :: ((wsX10_matches_r1 ++ wsX10_matches_r2) ++ wsX100 ++ wsX70 ++ wsX50 ++ wsX90 ++ (vx_atS RX10 103 "java/lang/IndexOutOfBoundsException" ["java/lang/RuntimeException", "java/lang/Exception"]).filter goodWord)
def wsX10_hits_r1 : List Cond := [Cond.methodLink RX10 115 yX10_isHit, Cond.instanceMethod yX10_isHit, Cond.selects RX10 yX10_isHit yX10_isHit, Cond.initialized RX10, Cond.code yX10_isHit cX10_isHit 3 (some .boolean), Cond.fieldLink RX10 10 "PostingPlanner" "shelf" "LPostingPlanner$Shelf;", Cond.fieldLink RX10 19 "PostingPlanner" "question" "LPostingPlanner$Question;", Cond.methodLink RX10 183 yX7_wordsAt, Cond.instanceMethod yX7_wordsAt, Cond.selects RX7 yX7_wordsAt yX7_wordsAt, Cond.initialized RX7, Cond.code yX7_wordsAt cX7_wordsAt 2 (some .int), Cond.fieldLink RX7 9 "PostingPlanner$Shelf" "words" "[I", Cond.methodLink RX10 186 yX5_isTrueOf, Cond.instanceMethod yX5_isTrueOf, Cond.selects RX5 yX5_isTrueOf yX5_isTrueOf, Cond.initialized RX5, Cond.code yX5_isTrueOf cX5_isTrueOf 5 (some .boolean), Cond.fieldLink RX5 22 "PostingPlanner$Question" "size" "I", Cond.fieldLink RX5 18 "PostingPlanner$Question" "kind" "I", Cond.fieldLink RX5 25 "PostingPlanner$Question" "need" "I", Cond.methodLink RX5 32 yX5_toldAt, Cond.instanceMethod yX5_toldAt, Cond.selects RX5 yX5_toldAt yX5_toldAt]
def wsX10_hits_r2 : List Cond := [Cond.code yX5_toldAt cX5_toldAt 2 (some (.object "PostingPlanner$ToldClause")), Cond.fieldLink RX5 11 "PostingPlanner$Question" "clauses" "[LPostingPlanner$ToldClause;", Cond.methodLink RX5 36 yX9_isTrueOf, Cond.instanceMethod yX9_isTrueOf, Cond.selects RX9 yX9_isTrueOf yX9_isTrueOf, Cond.initialized RX9, Cond.code yX9_isTrueOf cX9_isTrueOf 4 (some .boolean), Cond.fieldLink RX9 26 "PostingPlanner$ToldClause" "size" "I", Cond.fieldLink RX9 9 "PostingPlanner$ToldClause" "codes" "[I", Cond.fieldLink RX9 15 "PostingPlanner$ToldClause" "kind" "I", Cond.fieldLink RX9 19 "PostingPlanner$ToldClause" "need" "I", Cond.fieldLink RX9 22 "PostingPlanner$ToldClause" "isNegated" "Z", Cond.static yX10_isLiteralTrue, Cond.code yX10_isLiteralTrue cX10_isLiteralTrue 2 (some .boolean), Cond.static yX10_isEnough, Cond.code yX10_isEnough cX10_isEnough 4 (some .boolean)]
def wsX10_hits : List Cond := .code yX10_hits cX10_hits 3 (some .int) :: ((wsX10_hits_r1 ++ wsX10_hits_r2) ++ wsX100 ++ wsX70 ++ wsX50 ++ wsX90)
def wsX10_planKind_r1 : List Cond := [Cond.fieldLink RX10 31 "PostingPlanner" "plan" "LPostingPlanner$Plan;", Cond.fieldLink RX10 19 "PostingPlanner" "question" "LPostingPlanner$Question;", Cond.fieldLink RX10 10 "PostingPlanner" "shelf" "LPostingPlanner$Shelf;", Cond.fieldLink RX10 122 "PostingPlanner$Plan" "kind" "I", Cond.sameField "PostingPlanner$Plan" "PostingPlanner$Group" "kind" "I", Cond.methodLink RX10 118 yX2_make, Cond.instanceMethod yX2_make, Cond.selects RX2 yX2_make yX2_make, Cond.initialized RX2, Cond.code yX2_make cX2_make 7 none, Cond.fieldLink RX2 26 "PostingPlanner$Question" "kind" "I", Cond.fieldLink RX2 32 "PostingPlanner$Question" "need" "I", Cond.fieldLink RX2 11 "PostingPlanner$Plan" "clauses" "[LPostingPlanner$PlannedClause;", Cond.fieldLink RX2 55 "PostingPlanner$Plan" "size" "I", Cond.sameField "PostingPlanner$Plan" "PostingPlanner$Group" "size" "I", Cond.methodLink RX2 20 yX7_allThere, Cond.instanceMethod yX7_allThere, Cond.selects RX7 yX7_allThere yX7_allThere, Cond.initialized RX7, Cond.code yX7_allThere cX7_allThere 4 (some .long), Cond.fieldLink RX7 9 "PostingPlanner$Shelf" "words" "[I", Cond.methodLink RX2 35 ⟨"PostingPlanner$Plan", "restart", "(IIJ)V"⟩, Cond.sameMethod "PostingPlanner$Plan" "PostingPlanner$Group" "restart" "(IIJ)V", Cond.selects RX2 ⟨"PostingPlanner$Plan", "restart", "(IIJ)V"⟩ yX0_restart]
def wsX10_planKind_r2 : List Cond := [Cond.instanceMethod yX0_restart, Cond.initialized RX0, Cond.code yX0_restart cX0_restart 5 none, Cond.fieldLink RX0 15 "PostingPlanner$Group" "kind" "I", Cond.fieldLink RX0 19 "PostingPlanner$Group" "need" "I", Cond.fieldLink RX0 22 "PostingPlanner$Group" "size" "I", Cond.fieldLink RX0 25 "PostingPlanner$Group" "there" "J", Cond.fieldLink RX0 29 "PostingPlanner$Group" "place" "I", Cond.sameField "PostingPlanner$Group" "PostingPlanner$Part" "place" "I", Cond.methodLink RX2 39 ⟨"PostingPlanner$Plan", "isFixed", "()Z"⟩, Cond.sameMethod "PostingPlanner$Plan" "PostingPlanner$Group" "isFixed" "()Z", Cond.selects RX2 ⟨"PostingPlanner$Plan", "isFixed", "()Z"⟩ yX0_isFixed, Cond.instanceMethod yX0_isFixed, Cond.code yX0_isFixed cX0_isFixed 1 (some .boolean), Cond.methodLink RX2 43 yX5_toldAt, Cond.instanceMethod yX5_toldAt, Cond.selects RX5 yX5_toldAt yX5_toldAt, Cond.initialized RX5, Cond.code yX5_toldAt cX5_toldAt 2 (some (.object "PostingPlanner$ToldClause")), Cond.fieldLink RX5 22 "PostingPlanner$Question" "size" "I", Cond.fieldLink RX5 11 "PostingPlanner$Question" "clauses" "[LPostingPlanner$ToldClause;", Cond.methodLink RX2 47 yX3_make, Cond.instanceMethod yX3_make, Cond.selects RX3 yX3_make yX3_make]
def wsX10_planKind_r3 : List Cond := [Cond.initialized RX3, Cond.code yX3_make cX3_make 5 none, Cond.fieldLink RX3 24 "PostingPlanner$ToldClause" "kind" "I", Cond.fieldLink RX3 29 "PostingPlanner$ToldClause" "need" "I", Cond.fieldLink RX3 36 "PostingPlanner$ToldClause" "isNegated" "Z", Cond.fieldLink RX3 40 "PostingPlanner$ToldClause" "size" "I", Cond.methodLink RX3 32 ⟨"PostingPlanner$PlannedClause", "restart", "(IIJ)V"⟩, Cond.sameMethod "PostingPlanner$PlannedClause" "PostingPlanner$Group" "restart" "(IIJ)V", Cond.selects RX3 ⟨"PostingPlanner$PlannedClause", "restart", "(IIJ)V"⟩ yX0_restart, Cond.methodLink RX3 43 yX3_turn, Cond.instanceMethod yX3_turn, Cond.selects RX3 yX3_turn yX3_turn, Cond.code yX3_turn cX3_turn 2 none, Cond.fieldLink RX3 66 "PostingPlanner$PlannedClause" "kind" "I", Cond.sameField "PostingPlanner$PlannedClause" "PostingPlanner$Group" "kind" "I", Cond.fieldLink RX3 67 "PostingPlanner$PlannedClause" "need" "I", Cond.sameField "PostingPlanner$PlannedClause" "PostingPlanner$Group" "need" "I", Cond.methodLink RX3 47 ⟨"PostingPlanner$PlannedClause", "settleSome", "(I)V"⟩, Cond.sameMethod "PostingPlanner$PlannedClause" "PostingPlanner$Group" "settleSome" "(I)V", Cond.selects RX3 ⟨"PostingPlanner$PlannedClause", "settleSome", "(I)V"⟩ yX0_settleSome, Cond.instanceMethod yX0_settleSome, Cond.code yX0_settleSome cX0_settleSome 2 none, Cond.methodLink RX0 39 ⟨"PostingPlanner$Group", "fix", "(I)V"⟩, Cond.sameMethod "PostingPlanner$Group" "PostingPlanner$Group" "fix" "(I)V"]
def wsX10_planKind_r4 : List Cond := [Cond.selects RX2 ⟨"PostingPlanner$Group", "fix", "(I)V"⟩ yX0_fix, Cond.instanceMethod yX0_fix, Cond.code yX0_fix cX0_fix 2 none, Cond.selects RX3 ⟨"PostingPlanner$Group", "fix", "(I)V"⟩ yX0_fix, Cond.methodLink RX3 50 yX3_keepLiterals, Cond.instanceMethod yX3_keepLiterals, Cond.selects RX3 yX3_keepLiterals yX3_keepLiterals, Cond.code yX3_keepLiterals cX3_keepLiterals 7 none, Cond.fieldLink RX3 72 "PostingPlanner$ToldClause" "codes" "[I", Cond.fieldLink RX3 17 "PostingPlanner$PlannedClause" "literals" "[LPostingPlanner$PlannedLiteral;", Cond.methodLink RX3 68 ⟨"PostingPlanner$PlannedClause", "isFixed", "()Z"⟩, Cond.sameMethod "PostingPlanner$PlannedClause" "PostingPlanner$Group" "isFixed" "()Z", Cond.selects RX3 ⟨"PostingPlanner$PlannedClause", "isFixed", "()Z"⟩ yX0_isFixed, Cond.static yX10_contraryOf, Cond.initialized RX10, Cond.code yX10_contraryOf cX10_contraryOf 1 (some .int), Cond.methodLink RX3 80 ⟨"PostingPlanner$PlannedClause", "hasRank", "(I)Z"⟩, Cond.sameMethod "PostingPlanner$PlannedClause" "PostingPlanner$Group" "hasRank" "(I)Z", Cond.selects RX3 ⟨"PostingPlanner$PlannedClause", "hasRank", "(I)Z"⟩ yX0_hasRank, Cond.instanceMethod yX0_hasRank, Cond.code yX0_hasRank cX0_hasRank 4 (some .boolean), Cond.fieldLink RX0 36 "PostingPlanner$Part" "rank" "I", Cond.methodLink RX0 32 ⟨"PostingPlanner$Group", "partAt", "(I)LPostingPlanner$Part;"⟩, Cond.sameMethod "PostingPlanner$Group" "PostingPlanner$Group" "partAt" "(I)LPostingPlanner$Part;"]
def wsX10_planKind_r5 : List Cond := [Cond.selects RX2 ⟨"PostingPlanner$Group", "partAt", "(I)LPostingPlanner$Part;"⟩ yX0_partAt, Cond.instanceMethod yX0_partAt, Cond.code yX0_partAt cX0_partAt 2 (some (.object "PostingPlanner$Part")), Cond.fieldLink RX0 9 "PostingPlanner$Group" "parts" "[LPostingPlanner$Part;", Cond.selects RX3 ⟨"PostingPlanner$Group", "partAt", "(I)LPostingPlanner$Part;"⟩ yX0_partAt, Cond.methodLink RX3 84 yX7_truthsOf, Cond.instanceMethod yX7_truthsOf, Cond.selects RX7 yX7_truthsOf yX7_truthsOf, Cond.code yX7_truthsOf cX7_truthsOf 5 (some .long), Cond.static yX10_isLiteralTrue, Cond.code yX10_isLiteralTrue cX10_isLiteralTrue 2 (some .boolean), Cond.methodLink RX3 90 yX4_make, Cond.instanceMethod yX4_make, Cond.selects RX4 yX4_make yX4_make, Cond.initialized RX4, Cond.code yX4_make cX4_make 6 none, Cond.fieldLink RX4 15 "PostingPlanner$PlannedLiteral" "there" "J", Cond.fieldLink RX4 19 "PostingPlanner$PlannedLiteral" "truths" "J", Cond.fieldLink RX4 22 "PostingPlanner$PlannedLiteral" "rank" "I", Cond.sameField "PostingPlanner$PlannedLiteral" "PostingPlanner$Part" "rank" "I", Cond.fieldLink RX4 32 "PostingPlanner$PlannedLiteral" "estimate" "I", Cond.sameField "PostingPlanner$PlannedLiteral" "PostingPlanner$Part" "estimate" "I", Cond.fieldLink RX4 35 "PostingPlanner$PlannedLiteral" "place" "I", Cond.sameField "PostingPlanner$PlannedLiteral" "PostingPlanner$Part" "place" "I"]
def wsX10_planKind_r6 : List Cond := [Cond.methodLink RX4 26 yJ13_bitCount_95d88, Cond.static yJ13_bitCount_95d88, Cond.initialized RJ13, Cond.code yJ13_bitCount_95d88 cJ13_bitCount_95d88 2 (some .int), Cond.constantLong RJ13 314 (6148914691236517205), Cond.constantLong RJ13 316 (3689348814741910323), Cond.constantLong RJ13 318 (1085102592571150095), Cond.methodLink RX3 94 ⟨"PostingPlanner$PlannedClause", "keep", "(LPostingPlanner$Part;)V"⟩, Cond.sameMethod "PostingPlanner$PlannedClause" "PostingPlanner$Group" "keep" "(LPostingPlanner$Part;)V", Cond.selects RX3 ⟨"PostingPlanner$PlannedClause", "keep", "(LPostingPlanner$Part;)V"⟩ yX0_keep, Cond.instanceMethod yX0_keep, Cond.code yX0_keep cX0_keep 2 none, Cond.methodLink RX3 54 yX3_settleContraries, Cond.instanceMethod yX3_settleContraries, Cond.selects RX3 yX3_settleContraries yX3_settleContraries, Cond.code yX3_settleContraries cX3_settleContraries 3 none, Cond.fieldLink RX3 98 "PostingPlanner$PlannedClause" "size" "I", Cond.sameField "PostingPlanner$PlannedClause" "PostingPlanner$Group" "size" "I", Cond.fieldLink RX3 103 "PostingPlanner$Part" "rank" "I", Cond.methodLink RX3 99 ⟨"PostingPlanner$PlannedClause", "partAt", "(I)LPostingPlanner$Part;"⟩, Cond.sameMethod "PostingPlanner$PlannedClause" "PostingPlanner$Group" "partAt" "(I)LPostingPlanner$Part;", Cond.selects RX3 ⟨"PostingPlanner$PlannedClause", "partAt", "(I)LPostingPlanner$Part;"⟩ yX0_partAt, Cond.methodLink RX3 106 ⟨"PostingPlanner$PlannedClause", "fix", "(I)V"⟩, Cond.sameMethod "PostingPlanner$PlannedClause" "PostingPlanner$Group" "fix" "(I)V"]
def wsX10_planKind_r7 : List Cond := [Cond.selects RX3 ⟨"PostingPlanner$PlannedClause", "fix", "(I)V"⟩ yX0_fix, Cond.methodLink RX3 57 ⟨"PostingPlanner$PlannedClause", "settleEmpty", "()V"⟩, Cond.sameMethod "PostingPlanner$PlannedClause" "PostingPlanner$Group" "settleEmpty" "()V", Cond.selects RX3 ⟨"PostingPlanner$PlannedClause", "settleEmpty", "()V"⟩ yX0_settleEmpty, Cond.instanceMethod yX0_settleEmpty, Cond.code yX0_settleEmpty cX0_settleEmpty 1 none, Cond.methodLink RX3 60 ⟨"PostingPlanner$PlannedClause", "appraise", "()V"⟩, Cond.sameMethod "PostingPlanner$PlannedClause" "PostingPlanner$Group" "appraise" "()V", Cond.selects RX3 ⟨"PostingPlanner$PlannedClause", "appraise", "()V"⟩ yX0_appraise, Cond.instanceMethod yX0_appraise, Cond.code yX0_appraise cX0_appraise 2 none, Cond.fieldLink RX0 53 "PostingPlanner$Group" "estimate" "I", Cond.sameField "PostingPlanner$Group" "PostingPlanner$Part" "estimate" "I", Cond.methodLink RX0 60 Lib.Math.min.name, Cond.static Lib.Math.min.name, Cond.initialized "java/lang/Math", Cond.code Lib.Math.min.name Lib.Math.min.code 2 (some .int), Cond.methodLink RX0 43 yJ13_bitCount_95d88, Cond.methodLink RX0 49 ⟨"PostingPlanner$Group", "leastEstimate", "(I)I"⟩, Cond.sameMethod "PostingPlanner$Group" "PostingPlanner$Group" "leastEstimate" "(I)I", Cond.selects RX2 ⟨"PostingPlanner$Group", "leastEstimate", "(I)I"⟩ yX0_leastEstimate, Cond.instanceMethod yX0_leastEstimate, Cond.code yX0_leastEstimate cX0_leastEstimate 5 (some .int), Cond.fieldLink RX0 66 "PostingPlanner$Part" "estimate" "I"]
def wsX10_planKind_r8 : List Cond := [Cond.selects RX3 ⟨"PostingPlanner$Group", "leastEstimate", "(I)I"⟩ yX0_leastEstimate, Cond.methodLink RX0 56 ⟨"PostingPlanner$Group", "sumOfEstimates", "()I"⟩, Cond.sameMethod "PostingPlanner$Group" "PostingPlanner$Group" "sumOfEstimates" "()I", Cond.selects RX2 ⟨"PostingPlanner$Group", "sumOfEstimates", "()I"⟩ yX0_sumOfEstimates, Cond.instanceMethod yX0_sumOfEstimates, Cond.code yX0_sumOfEstimates cX0_sumOfEstimates 4 (some .int), Cond.selects RX3 ⟨"PostingPlanner$Group", "sumOfEstimates", "()I"⟩ yX0_sumOfEstimates, Cond.methodLink RX3 63 ⟨"PostingPlanner$PlannedClause", "order", "()V"⟩, Cond.sameMethod "PostingPlanner$PlannedClause" "PostingPlanner$Group" "order" "()V", Cond.selects RX3 ⟨"PostingPlanner$PlannedClause", "order", "()V"⟩ yX0_order, Cond.instanceMethod yX0_order, Cond.code yX0_order cX0_order 4 none, Cond.methodLink RX0 67 ⟨"PostingPlanner$Group", "isBefore", "(LPostingPlanner$Part;LPostingPlanner$Part;)Z"⟩, Cond.sameMethod "PostingPlanner$Group" "PostingPlanner$Group" "isBefore" "(LPostingPlanner$Part;LPostingPlanner$Part;)Z", Cond.selects RX2 ⟨"PostingPlanner$Group", "isBefore", "(LPostingPlanner$Part;LPostingPlanner$Part;)Z"⟩ yX0_isBefore, Cond.instanceMethod yX0_isBefore, Cond.code yX0_isBefore cX0_isBefore 3 (some .boolean), Cond.selects RX3 ⟨"PostingPlanner$Group", "isBefore", "(LPostingPlanner$Part;LPostingPlanner$Part;)Z"⟩ yX0_isBefore, Cond.methodLink RX2 51 yX2_takeIn, Cond.instanceMethod yX2_takeIn, Cond.selects RX2 yX2_takeIn yX2_takeIn, Cond.code yX2_takeIn cX2_takeIn 2 none, Cond.fieldLink RX2 76 "PostingPlanner$PlannedClause" "kind" "I", Cond.fieldLink RX2 77 "PostingPlanner$Plan" "kind" "I"]
def wsX10_planKind_r9 : List Cond := [Cond.fieldLink RX2 78 "PostingPlanner$Plan" "need" "I", Cond.sameField "PostingPlanner$Plan" "PostingPlanner$Group" "need" "I", Cond.methodLink RX2 71 ⟨"PostingPlanner$PlannedClause", "isFixed", "()Z"⟩, Cond.methodLink RX2 72 ⟨"PostingPlanner$Plan", "keep", "(LPostingPlanner$Part;)V"⟩, Cond.sameMethod "PostingPlanner$Plan" "PostingPlanner$Group" "keep" "(LPostingPlanner$Part;)V", Cond.selects RX2 ⟨"PostingPlanner$Plan", "keep", "(LPostingPlanner$Part;)V"⟩ yX0_keep, Cond.methodLink RX2 79 ⟨"PostingPlanner$Plan", "fix", "(I)V"⟩, Cond.sameMethod "PostingPlanner$Plan" "PostingPlanner$Group" "fix" "(I)V", Cond.selects RX2 ⟨"PostingPlanner$Plan", "fix", "(I)V"⟩ yX0_fix, Cond.methodLink RX2 58 ⟨"PostingPlanner$Plan", "settleSome", "(I)V"⟩, Cond.sameMethod "PostingPlanner$Plan" "PostingPlanner$Group" "settleSome" "(I)V", Cond.selects RX2 ⟨"PostingPlanner$Plan", "settleSome", "(I)V"⟩ yX0_settleSome, Cond.methodLink RX2 62 ⟨"PostingPlanner$Plan", "settleEmpty", "()V"⟩, Cond.sameMethod "PostingPlanner$Plan" "PostingPlanner$Group" "settleEmpty" "()V", Cond.selects RX2 ⟨"PostingPlanner$Plan", "settleEmpty", "()V"⟩ yX0_settleEmpty, Cond.methodLink RX2 65 ⟨"PostingPlanner$Plan", "appraise", "()V"⟩, Cond.sameMethod "PostingPlanner$Plan" "PostingPlanner$Group" "appraise" "()V", Cond.selects RX2 ⟨"PostingPlanner$Plan", "appraise", "()V"⟩ yX0_appraise, Cond.methodLink RX2 68 ⟨"PostingPlanner$Plan", "order", "()V"⟩, Cond.sameMethod "PostingPlanner$Plan" "PostingPlanner$Group" "order" "()V", Cond.selects RX2 ⟨"PostingPlanner$Plan", "order", "()V"⟩ yX0_order]
def wsX10_planKind : List Cond := .code yX10_planKind cX10_planKind 1 (some .int) :: ((wsX10_planKind_r1 ++ (wsX10_planKind_r2 ++ (wsX10_planKind_r3 ++ (wsX10_planKind_r4 ++ (wsX10_planKind_r5 ++ (wsX10_planKind_r6 ++ (wsX10_planKind_r7 ++ (wsX10_planKind_r8 ++ wsX10_planKind_r9)))))))) ++ wsX100 ++ wsX20 ++ wsX30 ++ wsX50 ++ wsX70 ++ wsX40 ++ wsX90)
def wsX10_planNeed_r1 : List Cond := [Cond.fieldLink RX10 31 "PostingPlanner" "plan" "LPostingPlanner$Plan;", Cond.fieldLink RX10 19 "PostingPlanner" "question" "LPostingPlanner$Question;", Cond.fieldLink RX10 10 "PostingPlanner" "shelf" "LPostingPlanner$Shelf;", Cond.fieldLink RX10 122 "PostingPlanner$Plan" "kind" "I", Cond.sameField "PostingPlanner$Plan" "PostingPlanner$Group" "kind" "I", Cond.fieldLink RX10 125 "PostingPlanner$Plan" "need" "I", Cond.sameField "PostingPlanner$Plan" "PostingPlanner$Group" "need" "I", Cond.methodLink RX10 118 yX2_make, Cond.instanceMethod yX2_make, Cond.selects RX2 yX2_make yX2_make, Cond.initialized RX2, Cond.code yX2_make cX2_make 7 none, Cond.fieldLink RX2 26 "PostingPlanner$Question" "kind" "I", Cond.fieldLink RX2 32 "PostingPlanner$Question" "need" "I", Cond.fieldLink RX2 11 "PostingPlanner$Plan" "clauses" "[LPostingPlanner$PlannedClause;", Cond.fieldLink RX2 55 "PostingPlanner$Plan" "size" "I", Cond.sameField "PostingPlanner$Plan" "PostingPlanner$Group" "size" "I", Cond.methodLink RX2 20 yX7_allThere, Cond.instanceMethod yX7_allThere, Cond.selects RX7 yX7_allThere yX7_allThere, Cond.initialized RX7, Cond.code yX7_allThere cX7_allThere 4 (some .long), Cond.fieldLink RX7 9 "PostingPlanner$Shelf" "words" "[I", Cond.methodLink RX2 35 ⟨"PostingPlanner$Plan", "restart", "(IIJ)V"⟩]
def wsX10_planNeed_r2 : List Cond := [Cond.sameMethod "PostingPlanner$Plan" "PostingPlanner$Group" "restart" "(IIJ)V", Cond.selects RX2 ⟨"PostingPlanner$Plan", "restart", "(IIJ)V"⟩ yX0_restart, Cond.instanceMethod yX0_restart, Cond.initialized RX0, Cond.code yX0_restart cX0_restart 5 none, Cond.fieldLink RX0 15 "PostingPlanner$Group" "kind" "I", Cond.fieldLink RX0 19 "PostingPlanner$Group" "need" "I", Cond.fieldLink RX0 22 "PostingPlanner$Group" "size" "I", Cond.fieldLink RX0 25 "PostingPlanner$Group" "there" "J", Cond.fieldLink RX0 29 "PostingPlanner$Group" "place" "I", Cond.sameField "PostingPlanner$Group" "PostingPlanner$Part" "place" "I", Cond.methodLink RX2 39 ⟨"PostingPlanner$Plan", "isFixed", "()Z"⟩, Cond.sameMethod "PostingPlanner$Plan" "PostingPlanner$Group" "isFixed" "()Z", Cond.selects RX2 ⟨"PostingPlanner$Plan", "isFixed", "()Z"⟩ yX0_isFixed, Cond.instanceMethod yX0_isFixed, Cond.code yX0_isFixed cX0_isFixed 1 (some .boolean), Cond.methodLink RX2 43 yX5_toldAt, Cond.instanceMethod yX5_toldAt, Cond.selects RX5 yX5_toldAt yX5_toldAt, Cond.initialized RX5, Cond.code yX5_toldAt cX5_toldAt 2 (some (.object "PostingPlanner$ToldClause")), Cond.fieldLink RX5 22 "PostingPlanner$Question" "size" "I", Cond.fieldLink RX5 11 "PostingPlanner$Question" "clauses" "[LPostingPlanner$ToldClause;", Cond.methodLink RX2 47 yX3_make]
def wsX10_planNeed_r3 : List Cond := [Cond.instanceMethod yX3_make, Cond.selects RX3 yX3_make yX3_make, Cond.initialized RX3, Cond.code yX3_make cX3_make 5 none, Cond.fieldLink RX3 24 "PostingPlanner$ToldClause" "kind" "I", Cond.fieldLink RX3 29 "PostingPlanner$ToldClause" "need" "I", Cond.fieldLink RX3 36 "PostingPlanner$ToldClause" "isNegated" "Z", Cond.fieldLink RX3 40 "PostingPlanner$ToldClause" "size" "I", Cond.methodLink RX3 32 ⟨"PostingPlanner$PlannedClause", "restart", "(IIJ)V"⟩, Cond.sameMethod "PostingPlanner$PlannedClause" "PostingPlanner$Group" "restart" "(IIJ)V", Cond.selects RX3 ⟨"PostingPlanner$PlannedClause", "restart", "(IIJ)V"⟩ yX0_restart, Cond.methodLink RX3 43 yX3_turn, Cond.instanceMethod yX3_turn, Cond.selects RX3 yX3_turn yX3_turn, Cond.code yX3_turn cX3_turn 2 none, Cond.fieldLink RX3 66 "PostingPlanner$PlannedClause" "kind" "I", Cond.sameField "PostingPlanner$PlannedClause" "PostingPlanner$Group" "kind" "I", Cond.fieldLink RX3 67 "PostingPlanner$PlannedClause" "need" "I", Cond.sameField "PostingPlanner$PlannedClause" "PostingPlanner$Group" "need" "I", Cond.methodLink RX3 47 ⟨"PostingPlanner$PlannedClause", "settleSome", "(I)V"⟩, Cond.sameMethod "PostingPlanner$PlannedClause" "PostingPlanner$Group" "settleSome" "(I)V", Cond.selects RX3 ⟨"PostingPlanner$PlannedClause", "settleSome", "(I)V"⟩ yX0_settleSome, Cond.instanceMethod yX0_settleSome, Cond.code yX0_settleSome cX0_settleSome 2 none]
def wsX10_planNeed_r4 : List Cond := [Cond.methodLink RX0 39 ⟨"PostingPlanner$Group", "fix", "(I)V"⟩, Cond.sameMethod "PostingPlanner$Group" "PostingPlanner$Group" "fix" "(I)V", Cond.selects RX2 ⟨"PostingPlanner$Group", "fix", "(I)V"⟩ yX0_fix, Cond.instanceMethod yX0_fix, Cond.code yX0_fix cX0_fix 2 none, Cond.selects RX3 ⟨"PostingPlanner$Group", "fix", "(I)V"⟩ yX0_fix, Cond.methodLink RX3 50 yX3_keepLiterals, Cond.instanceMethod yX3_keepLiterals, Cond.selects RX3 yX3_keepLiterals yX3_keepLiterals, Cond.code yX3_keepLiterals cX3_keepLiterals 7 none, Cond.fieldLink RX3 72 "PostingPlanner$ToldClause" "codes" "[I", Cond.fieldLink RX3 17 "PostingPlanner$PlannedClause" "literals" "[LPostingPlanner$PlannedLiteral;", Cond.methodLink RX3 68 ⟨"PostingPlanner$PlannedClause", "isFixed", "()Z"⟩, Cond.sameMethod "PostingPlanner$PlannedClause" "PostingPlanner$Group" "isFixed" "()Z", Cond.selects RX3 ⟨"PostingPlanner$PlannedClause", "isFixed", "()Z"⟩ yX0_isFixed, Cond.static yX10_contraryOf, Cond.initialized RX10, Cond.code yX10_contraryOf cX10_contraryOf 1 (some .int), Cond.methodLink RX3 80 ⟨"PostingPlanner$PlannedClause", "hasRank", "(I)Z"⟩, Cond.sameMethod "PostingPlanner$PlannedClause" "PostingPlanner$Group" "hasRank" "(I)Z", Cond.selects RX3 ⟨"PostingPlanner$PlannedClause", "hasRank", "(I)Z"⟩ yX0_hasRank, Cond.instanceMethod yX0_hasRank, Cond.code yX0_hasRank cX0_hasRank 4 (some .boolean), Cond.fieldLink RX0 36 "PostingPlanner$Part" "rank" "I"]
def wsX10_planNeed_r5 : List Cond := [Cond.methodLink RX0 32 ⟨"PostingPlanner$Group", "partAt", "(I)LPostingPlanner$Part;"⟩, Cond.sameMethod "PostingPlanner$Group" "PostingPlanner$Group" "partAt" "(I)LPostingPlanner$Part;", Cond.selects RX2 ⟨"PostingPlanner$Group", "partAt", "(I)LPostingPlanner$Part;"⟩ yX0_partAt, Cond.instanceMethod yX0_partAt, Cond.code yX0_partAt cX0_partAt 2 (some (.object "PostingPlanner$Part")), Cond.fieldLink RX0 9 "PostingPlanner$Group" "parts" "[LPostingPlanner$Part;", Cond.selects RX3 ⟨"PostingPlanner$Group", "partAt", "(I)LPostingPlanner$Part;"⟩ yX0_partAt, Cond.methodLink RX3 84 yX7_truthsOf, Cond.instanceMethod yX7_truthsOf, Cond.selects RX7 yX7_truthsOf yX7_truthsOf, Cond.code yX7_truthsOf cX7_truthsOf 5 (some .long), Cond.static yX10_isLiteralTrue, Cond.code yX10_isLiteralTrue cX10_isLiteralTrue 2 (some .boolean), Cond.methodLink RX3 90 yX4_make, Cond.instanceMethod yX4_make, Cond.selects RX4 yX4_make yX4_make, Cond.initialized RX4, Cond.code yX4_make cX4_make 6 none, Cond.fieldLink RX4 15 "PostingPlanner$PlannedLiteral" "there" "J", Cond.fieldLink RX4 19 "PostingPlanner$PlannedLiteral" "truths" "J", Cond.fieldLink RX4 22 "PostingPlanner$PlannedLiteral" "rank" "I", Cond.sameField "PostingPlanner$PlannedLiteral" "PostingPlanner$Part" "rank" "I", Cond.fieldLink RX4 32 "PostingPlanner$PlannedLiteral" "estimate" "I", Cond.sameField "PostingPlanner$PlannedLiteral" "PostingPlanner$Part" "estimate" "I"]
def wsX10_planNeed_r6 : List Cond := [Cond.fieldLink RX4 35 "PostingPlanner$PlannedLiteral" "place" "I", Cond.sameField "PostingPlanner$PlannedLiteral" "PostingPlanner$Part" "place" "I", Cond.methodLink RX4 26 yJ13_bitCount_95d88, Cond.static yJ13_bitCount_95d88, Cond.initialized RJ13, Cond.code yJ13_bitCount_95d88 cJ13_bitCount_95d88 2 (some .int), Cond.constantLong RJ13 314 (6148914691236517205), Cond.constantLong RJ13 316 (3689348814741910323), Cond.constantLong RJ13 318 (1085102592571150095), Cond.methodLink RX3 94 ⟨"PostingPlanner$PlannedClause", "keep", "(LPostingPlanner$Part;)V"⟩, Cond.sameMethod "PostingPlanner$PlannedClause" "PostingPlanner$Group" "keep" "(LPostingPlanner$Part;)V", Cond.selects RX3 ⟨"PostingPlanner$PlannedClause", "keep", "(LPostingPlanner$Part;)V"⟩ yX0_keep, Cond.instanceMethod yX0_keep, Cond.code yX0_keep cX0_keep 2 none, Cond.methodLink RX3 54 yX3_settleContraries, Cond.instanceMethod yX3_settleContraries, Cond.selects RX3 yX3_settleContraries yX3_settleContraries, Cond.code yX3_settleContraries cX3_settleContraries 3 none, Cond.fieldLink RX3 98 "PostingPlanner$PlannedClause" "size" "I", Cond.sameField "PostingPlanner$PlannedClause" "PostingPlanner$Group" "size" "I", Cond.fieldLink RX3 103 "PostingPlanner$Part" "rank" "I", Cond.methodLink RX3 99 ⟨"PostingPlanner$PlannedClause", "partAt", "(I)LPostingPlanner$Part;"⟩, Cond.sameMethod "PostingPlanner$PlannedClause" "PostingPlanner$Group" "partAt" "(I)LPostingPlanner$Part;", Cond.selects RX3 ⟨"PostingPlanner$PlannedClause", "partAt", "(I)LPostingPlanner$Part;"⟩ yX0_partAt]
def wsX10_planNeed_r7 : List Cond := [Cond.methodLink RX3 106 ⟨"PostingPlanner$PlannedClause", "fix", "(I)V"⟩, Cond.sameMethod "PostingPlanner$PlannedClause" "PostingPlanner$Group" "fix" "(I)V", Cond.selects RX3 ⟨"PostingPlanner$PlannedClause", "fix", "(I)V"⟩ yX0_fix, Cond.methodLink RX3 57 ⟨"PostingPlanner$PlannedClause", "settleEmpty", "()V"⟩, Cond.sameMethod "PostingPlanner$PlannedClause" "PostingPlanner$Group" "settleEmpty" "()V", Cond.selects RX3 ⟨"PostingPlanner$PlannedClause", "settleEmpty", "()V"⟩ yX0_settleEmpty, Cond.instanceMethod yX0_settleEmpty, Cond.code yX0_settleEmpty cX0_settleEmpty 1 none, Cond.methodLink RX3 60 ⟨"PostingPlanner$PlannedClause", "appraise", "()V"⟩, Cond.sameMethod "PostingPlanner$PlannedClause" "PostingPlanner$Group" "appraise" "()V", Cond.selects RX3 ⟨"PostingPlanner$PlannedClause", "appraise", "()V"⟩ yX0_appraise, Cond.instanceMethod yX0_appraise, Cond.code yX0_appraise cX0_appraise 2 none, Cond.fieldLink RX0 53 "PostingPlanner$Group" "estimate" "I", Cond.sameField "PostingPlanner$Group" "PostingPlanner$Part" "estimate" "I", Cond.methodLink RX0 60 Lib.Math.min.name, Cond.static Lib.Math.min.name, Cond.initialized "java/lang/Math", Cond.code Lib.Math.min.name Lib.Math.min.code 2 (some .int), Cond.methodLink RX0 43 yJ13_bitCount_95d88, Cond.methodLink RX0 49 ⟨"PostingPlanner$Group", "leastEstimate", "(I)I"⟩, Cond.sameMethod "PostingPlanner$Group" "PostingPlanner$Group" "leastEstimate" "(I)I", Cond.selects RX2 ⟨"PostingPlanner$Group", "leastEstimate", "(I)I"⟩ yX0_leastEstimate, Cond.instanceMethod yX0_leastEstimate]
def wsX10_planNeed_r8 : List Cond := [Cond.code yX0_leastEstimate cX0_leastEstimate 5 (some .int), Cond.fieldLink RX0 66 "PostingPlanner$Part" "estimate" "I", Cond.selects RX3 ⟨"PostingPlanner$Group", "leastEstimate", "(I)I"⟩ yX0_leastEstimate, Cond.methodLink RX0 56 ⟨"PostingPlanner$Group", "sumOfEstimates", "()I"⟩, Cond.sameMethod "PostingPlanner$Group" "PostingPlanner$Group" "sumOfEstimates" "()I", Cond.selects RX2 ⟨"PostingPlanner$Group", "sumOfEstimates", "()I"⟩ yX0_sumOfEstimates, Cond.instanceMethod yX0_sumOfEstimates, Cond.code yX0_sumOfEstimates cX0_sumOfEstimates 4 (some .int), Cond.selects RX3 ⟨"PostingPlanner$Group", "sumOfEstimates", "()I"⟩ yX0_sumOfEstimates, Cond.methodLink RX3 63 ⟨"PostingPlanner$PlannedClause", "order", "()V"⟩, Cond.sameMethod "PostingPlanner$PlannedClause" "PostingPlanner$Group" "order" "()V", Cond.selects RX3 ⟨"PostingPlanner$PlannedClause", "order", "()V"⟩ yX0_order, Cond.instanceMethod yX0_order, Cond.code yX0_order cX0_order 4 none, Cond.methodLink RX0 67 ⟨"PostingPlanner$Group", "isBefore", "(LPostingPlanner$Part;LPostingPlanner$Part;)Z"⟩, Cond.sameMethod "PostingPlanner$Group" "PostingPlanner$Group" "isBefore" "(LPostingPlanner$Part;LPostingPlanner$Part;)Z", Cond.selects RX2 ⟨"PostingPlanner$Group", "isBefore", "(LPostingPlanner$Part;LPostingPlanner$Part;)Z"⟩ yX0_isBefore, Cond.instanceMethod yX0_isBefore, Cond.code yX0_isBefore cX0_isBefore 3 (some .boolean), Cond.selects RX3 ⟨"PostingPlanner$Group", "isBefore", "(LPostingPlanner$Part;LPostingPlanner$Part;)Z"⟩ yX0_isBefore, Cond.methodLink RX2 51 yX2_takeIn, Cond.instanceMethod yX2_takeIn, Cond.selects RX2 yX2_takeIn yX2_takeIn, Cond.code yX2_takeIn cX2_takeIn 2 none]
def wsX10_planNeed_r9 : List Cond := [Cond.fieldLink RX2 76 "PostingPlanner$PlannedClause" "kind" "I", Cond.fieldLink RX2 77 "PostingPlanner$Plan" "kind" "I", Cond.fieldLink RX2 78 "PostingPlanner$Plan" "need" "I", Cond.methodLink RX2 71 ⟨"PostingPlanner$PlannedClause", "isFixed", "()Z"⟩, Cond.methodLink RX2 72 ⟨"PostingPlanner$Plan", "keep", "(LPostingPlanner$Part;)V"⟩, Cond.sameMethod "PostingPlanner$Plan" "PostingPlanner$Group" "keep" "(LPostingPlanner$Part;)V", Cond.selects RX2 ⟨"PostingPlanner$Plan", "keep", "(LPostingPlanner$Part;)V"⟩ yX0_keep, Cond.methodLink RX2 79 ⟨"PostingPlanner$Plan", "fix", "(I)V"⟩, Cond.sameMethod "PostingPlanner$Plan" "PostingPlanner$Group" "fix" "(I)V", Cond.selects RX2 ⟨"PostingPlanner$Plan", "fix", "(I)V"⟩ yX0_fix, Cond.methodLink RX2 58 ⟨"PostingPlanner$Plan", "settleSome", "(I)V"⟩, Cond.sameMethod "PostingPlanner$Plan" "PostingPlanner$Group" "settleSome" "(I)V", Cond.selects RX2 ⟨"PostingPlanner$Plan", "settleSome", "(I)V"⟩ yX0_settleSome, Cond.methodLink RX2 62 ⟨"PostingPlanner$Plan", "settleEmpty", "()V"⟩, Cond.sameMethod "PostingPlanner$Plan" "PostingPlanner$Group" "settleEmpty" "()V", Cond.selects RX2 ⟨"PostingPlanner$Plan", "settleEmpty", "()V"⟩ yX0_settleEmpty, Cond.methodLink RX2 65 ⟨"PostingPlanner$Plan", "appraise", "()V"⟩, Cond.sameMethod "PostingPlanner$Plan" "PostingPlanner$Group" "appraise" "()V", Cond.selects RX2 ⟨"PostingPlanner$Plan", "appraise", "()V"⟩ yX0_appraise, Cond.methodLink RX2 68 ⟨"PostingPlanner$Plan", "order", "()V"⟩, Cond.sameMethod "PostingPlanner$Plan" "PostingPlanner$Group" "order" "()V", Cond.selects RX2 ⟨"PostingPlanner$Plan", "order", "()V"⟩ yX0_order]
def wsX10_planNeed : List Cond := .code yX10_planNeed cX10_planNeed 1 (some .int) :: ((wsX10_planNeed_r1 ++ (wsX10_planNeed_r2 ++ (wsX10_planNeed_r3 ++ (wsX10_planNeed_r4 ++ (wsX10_planNeed_r5 ++ (wsX10_planNeed_r6 ++ (wsX10_planNeed_r7 ++ (wsX10_planNeed_r8 ++ wsX10_planNeed_r9)))))))) ++ wsX100 ++ wsX20 ++ wsX30 ++ wsX50 ++ wsX70 ++ wsX40 ++ wsX90)
def wsX10_planSize_r1 : List Cond := [Cond.fieldLink RX10 31 "PostingPlanner" "plan" "LPostingPlanner$Plan;", Cond.fieldLink RX10 19 "PostingPlanner" "question" "LPostingPlanner$Question;", Cond.fieldLink RX10 10 "PostingPlanner" "shelf" "LPostingPlanner$Shelf;", Cond.fieldLink RX10 128 "PostingPlanner$Plan" "size" "I", Cond.sameField "PostingPlanner$Plan" "PostingPlanner$Group" "size" "I", Cond.methodLink RX10 118 yX2_make, Cond.instanceMethod yX2_make, Cond.selects RX2 yX2_make yX2_make, Cond.initialized RX2, Cond.code yX2_make cX2_make 7 none, Cond.fieldLink RX2 26 "PostingPlanner$Question" "kind" "I", Cond.fieldLink RX2 32 "PostingPlanner$Question" "need" "I", Cond.fieldLink RX2 11 "PostingPlanner$Plan" "clauses" "[LPostingPlanner$PlannedClause;", Cond.fieldLink RX2 55 "PostingPlanner$Plan" "size" "I", Cond.methodLink RX2 20 yX7_allThere, Cond.instanceMethod yX7_allThere, Cond.selects RX7 yX7_allThere yX7_allThere, Cond.initialized RX7, Cond.code yX7_allThere cX7_allThere 4 (some .long), Cond.fieldLink RX7 9 "PostingPlanner$Shelf" "words" "[I", Cond.methodLink RX2 35 ⟨"PostingPlanner$Plan", "restart", "(IIJ)V"⟩, Cond.sameMethod "PostingPlanner$Plan" "PostingPlanner$Group" "restart" "(IIJ)V", Cond.selects RX2 ⟨"PostingPlanner$Plan", "restart", "(IIJ)V"⟩ yX0_restart, Cond.instanceMethod yX0_restart]
def wsX10_planSize_r2 : List Cond := [Cond.initialized RX0, Cond.code yX0_restart cX0_restart 5 none, Cond.fieldLink RX0 15 "PostingPlanner$Group" "kind" "I", Cond.fieldLink RX0 19 "PostingPlanner$Group" "need" "I", Cond.fieldLink RX0 22 "PostingPlanner$Group" "size" "I", Cond.fieldLink RX0 25 "PostingPlanner$Group" "there" "J", Cond.fieldLink RX0 29 "PostingPlanner$Group" "place" "I", Cond.sameField "PostingPlanner$Group" "PostingPlanner$Part" "place" "I", Cond.methodLink RX2 39 ⟨"PostingPlanner$Plan", "isFixed", "()Z"⟩, Cond.sameMethod "PostingPlanner$Plan" "PostingPlanner$Group" "isFixed" "()Z", Cond.selects RX2 ⟨"PostingPlanner$Plan", "isFixed", "()Z"⟩ yX0_isFixed, Cond.instanceMethod yX0_isFixed, Cond.code yX0_isFixed cX0_isFixed 1 (some .boolean), Cond.methodLink RX2 43 yX5_toldAt, Cond.instanceMethod yX5_toldAt, Cond.selects RX5 yX5_toldAt yX5_toldAt, Cond.initialized RX5, Cond.code yX5_toldAt cX5_toldAt 2 (some (.object "PostingPlanner$ToldClause")), Cond.fieldLink RX5 22 "PostingPlanner$Question" "size" "I", Cond.fieldLink RX5 11 "PostingPlanner$Question" "clauses" "[LPostingPlanner$ToldClause;", Cond.methodLink RX2 47 yX3_make, Cond.instanceMethod yX3_make, Cond.selects RX3 yX3_make yX3_make, Cond.initialized RX3]
def wsX10_planSize_r3 : List Cond := [Cond.code yX3_make cX3_make 5 none, Cond.fieldLink RX3 24 "PostingPlanner$ToldClause" "kind" "I", Cond.fieldLink RX3 29 "PostingPlanner$ToldClause" "need" "I", Cond.fieldLink RX3 36 "PostingPlanner$ToldClause" "isNegated" "Z", Cond.fieldLink RX3 40 "PostingPlanner$ToldClause" "size" "I", Cond.methodLink RX3 32 ⟨"PostingPlanner$PlannedClause", "restart", "(IIJ)V"⟩, Cond.sameMethod "PostingPlanner$PlannedClause" "PostingPlanner$Group" "restart" "(IIJ)V", Cond.selects RX3 ⟨"PostingPlanner$PlannedClause", "restart", "(IIJ)V"⟩ yX0_restart, Cond.methodLink RX3 43 yX3_turn, Cond.instanceMethod yX3_turn, Cond.selects RX3 yX3_turn yX3_turn, Cond.code yX3_turn cX3_turn 2 none, Cond.fieldLink RX3 66 "PostingPlanner$PlannedClause" "kind" "I", Cond.sameField "PostingPlanner$PlannedClause" "PostingPlanner$Group" "kind" "I", Cond.fieldLink RX3 67 "PostingPlanner$PlannedClause" "need" "I", Cond.sameField "PostingPlanner$PlannedClause" "PostingPlanner$Group" "need" "I", Cond.methodLink RX3 47 ⟨"PostingPlanner$PlannedClause", "settleSome", "(I)V"⟩, Cond.sameMethod "PostingPlanner$PlannedClause" "PostingPlanner$Group" "settleSome" "(I)V", Cond.selects RX3 ⟨"PostingPlanner$PlannedClause", "settleSome", "(I)V"⟩ yX0_settleSome, Cond.instanceMethod yX0_settleSome, Cond.code yX0_settleSome cX0_settleSome 2 none, Cond.methodLink RX0 39 ⟨"PostingPlanner$Group", "fix", "(I)V"⟩, Cond.sameMethod "PostingPlanner$Group" "PostingPlanner$Group" "fix" "(I)V", Cond.selects RX2 ⟨"PostingPlanner$Group", "fix", "(I)V"⟩ yX0_fix]
def wsX10_planSize_r4 : List Cond := [Cond.instanceMethod yX0_fix, Cond.code yX0_fix cX0_fix 2 none, Cond.selects RX3 ⟨"PostingPlanner$Group", "fix", "(I)V"⟩ yX0_fix, Cond.methodLink RX3 50 yX3_keepLiterals, Cond.instanceMethod yX3_keepLiterals, Cond.selects RX3 yX3_keepLiterals yX3_keepLiterals, Cond.code yX3_keepLiterals cX3_keepLiterals 7 none, Cond.fieldLink RX3 72 "PostingPlanner$ToldClause" "codes" "[I", Cond.fieldLink RX3 17 "PostingPlanner$PlannedClause" "literals" "[LPostingPlanner$PlannedLiteral;", Cond.methodLink RX3 68 ⟨"PostingPlanner$PlannedClause", "isFixed", "()Z"⟩, Cond.sameMethod "PostingPlanner$PlannedClause" "PostingPlanner$Group" "isFixed" "()Z", Cond.selects RX3 ⟨"PostingPlanner$PlannedClause", "isFixed", "()Z"⟩ yX0_isFixed, Cond.static yX10_contraryOf, Cond.initialized RX10, Cond.code yX10_contraryOf cX10_contraryOf 1 (some .int), Cond.methodLink RX3 80 ⟨"PostingPlanner$PlannedClause", "hasRank", "(I)Z"⟩, Cond.sameMethod "PostingPlanner$PlannedClause" "PostingPlanner$Group" "hasRank" "(I)Z", Cond.selects RX3 ⟨"PostingPlanner$PlannedClause", "hasRank", "(I)Z"⟩ yX0_hasRank, Cond.instanceMethod yX0_hasRank, Cond.code yX0_hasRank cX0_hasRank 4 (some .boolean), Cond.fieldLink RX0 36 "PostingPlanner$Part" "rank" "I", Cond.methodLink RX0 32 ⟨"PostingPlanner$Group", "partAt", "(I)LPostingPlanner$Part;"⟩, Cond.sameMethod "PostingPlanner$Group" "PostingPlanner$Group" "partAt" "(I)LPostingPlanner$Part;", Cond.selects RX2 ⟨"PostingPlanner$Group", "partAt", "(I)LPostingPlanner$Part;"⟩ yX0_partAt]
def wsX10_planSize_r5 : List Cond := [Cond.instanceMethod yX0_partAt, Cond.code yX0_partAt cX0_partAt 2 (some (.object "PostingPlanner$Part")), Cond.fieldLink RX0 9 "PostingPlanner$Group" "parts" "[LPostingPlanner$Part;", Cond.selects RX3 ⟨"PostingPlanner$Group", "partAt", "(I)LPostingPlanner$Part;"⟩ yX0_partAt, Cond.methodLink RX3 84 yX7_truthsOf, Cond.instanceMethod yX7_truthsOf, Cond.selects RX7 yX7_truthsOf yX7_truthsOf, Cond.code yX7_truthsOf cX7_truthsOf 5 (some .long), Cond.static yX10_isLiteralTrue, Cond.code yX10_isLiteralTrue cX10_isLiteralTrue 2 (some .boolean), Cond.methodLink RX3 90 yX4_make, Cond.instanceMethod yX4_make, Cond.selects RX4 yX4_make yX4_make, Cond.initialized RX4, Cond.code yX4_make cX4_make 6 none, Cond.fieldLink RX4 15 "PostingPlanner$PlannedLiteral" "there" "J", Cond.fieldLink RX4 19 "PostingPlanner$PlannedLiteral" "truths" "J", Cond.fieldLink RX4 22 "PostingPlanner$PlannedLiteral" "rank" "I", Cond.sameField "PostingPlanner$PlannedLiteral" "PostingPlanner$Part" "rank" "I", Cond.fieldLink RX4 32 "PostingPlanner$PlannedLiteral" "estimate" "I", Cond.sameField "PostingPlanner$PlannedLiteral" "PostingPlanner$Part" "estimate" "I", Cond.fieldLink RX4 35 "PostingPlanner$PlannedLiteral" "place" "I", Cond.sameField "PostingPlanner$PlannedLiteral" "PostingPlanner$Part" "place" "I", Cond.methodLink RX4 26 yJ13_bitCount_95d88]
def wsX10_planSize_r6 : List Cond := [Cond.static yJ13_bitCount_95d88, Cond.initialized RJ13, Cond.code yJ13_bitCount_95d88 cJ13_bitCount_95d88 2 (some .int), Cond.constantLong RJ13 314 (6148914691236517205), Cond.constantLong RJ13 316 (3689348814741910323), Cond.constantLong RJ13 318 (1085102592571150095), Cond.methodLink RX3 94 ⟨"PostingPlanner$PlannedClause", "keep", "(LPostingPlanner$Part;)V"⟩, Cond.sameMethod "PostingPlanner$PlannedClause" "PostingPlanner$Group" "keep" "(LPostingPlanner$Part;)V", Cond.selects RX3 ⟨"PostingPlanner$PlannedClause", "keep", "(LPostingPlanner$Part;)V"⟩ yX0_keep, Cond.instanceMethod yX0_keep, Cond.code yX0_keep cX0_keep 2 none, Cond.methodLink RX3 54 yX3_settleContraries, Cond.instanceMethod yX3_settleContraries, Cond.selects RX3 yX3_settleContraries yX3_settleContraries, Cond.code yX3_settleContraries cX3_settleContraries 3 none, Cond.fieldLink RX3 98 "PostingPlanner$PlannedClause" "size" "I", Cond.sameField "PostingPlanner$PlannedClause" "PostingPlanner$Group" "size" "I", Cond.fieldLink RX3 103 "PostingPlanner$Part" "rank" "I", Cond.methodLink RX3 99 ⟨"PostingPlanner$PlannedClause", "partAt", "(I)LPostingPlanner$Part;"⟩, Cond.sameMethod "PostingPlanner$PlannedClause" "PostingPlanner$Group" "partAt" "(I)LPostingPlanner$Part;", Cond.selects RX3 ⟨"PostingPlanner$PlannedClause", "partAt", "(I)LPostingPlanner$Part;"⟩ yX0_partAt, Cond.methodLink RX3 106 ⟨"PostingPlanner$PlannedClause", "fix", "(I)V"⟩, Cond.sameMethod "PostingPlanner$PlannedClause" "PostingPlanner$Group" "fix" "(I)V", Cond.selects RX3 ⟨"PostingPlanner$PlannedClause", "fix", "(I)V"⟩ yX0_fix]
def wsX10_planSize_r7 : List Cond := [Cond.methodLink RX3 57 ⟨"PostingPlanner$PlannedClause", "settleEmpty", "()V"⟩, Cond.sameMethod "PostingPlanner$PlannedClause" "PostingPlanner$Group" "settleEmpty" "()V", Cond.selects RX3 ⟨"PostingPlanner$PlannedClause", "settleEmpty", "()V"⟩ yX0_settleEmpty, Cond.instanceMethod yX0_settleEmpty, Cond.code yX0_settleEmpty cX0_settleEmpty 1 none, Cond.methodLink RX3 60 ⟨"PostingPlanner$PlannedClause", "appraise", "()V"⟩, Cond.sameMethod "PostingPlanner$PlannedClause" "PostingPlanner$Group" "appraise" "()V", Cond.selects RX3 ⟨"PostingPlanner$PlannedClause", "appraise", "()V"⟩ yX0_appraise, Cond.instanceMethod yX0_appraise, Cond.code yX0_appraise cX0_appraise 2 none, Cond.fieldLink RX0 53 "PostingPlanner$Group" "estimate" "I", Cond.sameField "PostingPlanner$Group" "PostingPlanner$Part" "estimate" "I", Cond.methodLink RX0 60 Lib.Math.min.name, Cond.static Lib.Math.min.name, Cond.initialized "java/lang/Math", Cond.code Lib.Math.min.name Lib.Math.min.code 2 (some .int), Cond.methodLink RX0 43 yJ13_bitCount_95d88, Cond.methodLink RX0 49 ⟨"PostingPlanner$Group", "leastEstimate", "(I)I"⟩, Cond.sameMethod "PostingPlanner$Group" "PostingPlanner$Group" "leastEstimate" "(I)I", Cond.selects RX2 ⟨"PostingPlanner$Group", "leastEstimate", "(I)I"⟩ yX0_leastEstimate, Cond.instanceMethod yX0_leastEstimate, Cond.code yX0_leastEstimate cX0_leastEstimate 5 (some .int), Cond.fieldLink RX0 66 "PostingPlanner$Part" "estimate" "I", Cond.selects RX3 ⟨"PostingPlanner$Group", "leastEstimate", "(I)I"⟩ yX0_leastEstimate]
def wsX10_planSize_r8 : List Cond := [Cond.methodLink RX0 56 ⟨"PostingPlanner$Group", "sumOfEstimates", "()I"⟩, Cond.sameMethod "PostingPlanner$Group" "PostingPlanner$Group" "sumOfEstimates" "()I", Cond.selects RX2 ⟨"PostingPlanner$Group", "sumOfEstimates", "()I"⟩ yX0_sumOfEstimates, Cond.instanceMethod yX0_sumOfEstimates, Cond.code yX0_sumOfEstimates cX0_sumOfEstimates 4 (some .int), Cond.selects RX3 ⟨"PostingPlanner$Group", "sumOfEstimates", "()I"⟩ yX0_sumOfEstimates, Cond.methodLink RX3 63 ⟨"PostingPlanner$PlannedClause", "order", "()V"⟩, Cond.sameMethod "PostingPlanner$PlannedClause" "PostingPlanner$Group" "order" "()V", Cond.selects RX3 ⟨"PostingPlanner$PlannedClause", "order", "()V"⟩ yX0_order, Cond.instanceMethod yX0_order, Cond.code yX0_order cX0_order 4 none, Cond.methodLink RX0 67 ⟨"PostingPlanner$Group", "isBefore", "(LPostingPlanner$Part;LPostingPlanner$Part;)Z"⟩, Cond.sameMethod "PostingPlanner$Group" "PostingPlanner$Group" "isBefore" "(LPostingPlanner$Part;LPostingPlanner$Part;)Z", Cond.selects RX2 ⟨"PostingPlanner$Group", "isBefore", "(LPostingPlanner$Part;LPostingPlanner$Part;)Z"⟩ yX0_isBefore, Cond.instanceMethod yX0_isBefore, Cond.code yX0_isBefore cX0_isBefore 3 (some .boolean), Cond.selects RX3 ⟨"PostingPlanner$Group", "isBefore", "(LPostingPlanner$Part;LPostingPlanner$Part;)Z"⟩ yX0_isBefore, Cond.methodLink RX2 51 yX2_takeIn, Cond.instanceMethod yX2_takeIn, Cond.selects RX2 yX2_takeIn yX2_takeIn, Cond.code yX2_takeIn cX2_takeIn 2 none, Cond.fieldLink RX2 76 "PostingPlanner$PlannedClause" "kind" "I", Cond.fieldLink RX2 77 "PostingPlanner$Plan" "kind" "I", Cond.sameField "PostingPlanner$Plan" "PostingPlanner$Group" "kind" "I"]
def wsX10_planSize_r9 : List Cond := [Cond.fieldLink RX2 78 "PostingPlanner$Plan" "need" "I", Cond.sameField "PostingPlanner$Plan" "PostingPlanner$Group" "need" "I", Cond.methodLink RX2 71 ⟨"PostingPlanner$PlannedClause", "isFixed", "()Z"⟩, Cond.methodLink RX2 72 ⟨"PostingPlanner$Plan", "keep", "(LPostingPlanner$Part;)V"⟩, Cond.sameMethod "PostingPlanner$Plan" "PostingPlanner$Group" "keep" "(LPostingPlanner$Part;)V", Cond.selects RX2 ⟨"PostingPlanner$Plan", "keep", "(LPostingPlanner$Part;)V"⟩ yX0_keep, Cond.methodLink RX2 79 ⟨"PostingPlanner$Plan", "fix", "(I)V"⟩, Cond.sameMethod "PostingPlanner$Plan" "PostingPlanner$Group" "fix" "(I)V", Cond.selects RX2 ⟨"PostingPlanner$Plan", "fix", "(I)V"⟩ yX0_fix, Cond.methodLink RX2 58 ⟨"PostingPlanner$Plan", "settleSome", "(I)V"⟩, Cond.sameMethod "PostingPlanner$Plan" "PostingPlanner$Group" "settleSome" "(I)V", Cond.selects RX2 ⟨"PostingPlanner$Plan", "settleSome", "(I)V"⟩ yX0_settleSome, Cond.methodLink RX2 62 ⟨"PostingPlanner$Plan", "settleEmpty", "()V"⟩, Cond.sameMethod "PostingPlanner$Plan" "PostingPlanner$Group" "settleEmpty" "()V", Cond.selects RX2 ⟨"PostingPlanner$Plan", "settleEmpty", "()V"⟩ yX0_settleEmpty, Cond.methodLink RX2 65 ⟨"PostingPlanner$Plan", "appraise", "()V"⟩, Cond.sameMethod "PostingPlanner$Plan" "PostingPlanner$Group" "appraise" "()V", Cond.selects RX2 ⟨"PostingPlanner$Plan", "appraise", "()V"⟩ yX0_appraise, Cond.methodLink RX2 68 ⟨"PostingPlanner$Plan", "order", "()V"⟩, Cond.sameMethod "PostingPlanner$Plan" "PostingPlanner$Group" "order" "()V", Cond.selects RX2 ⟨"PostingPlanner$Plan", "order", "()V"⟩ yX0_order]
def wsX10_planSize : List Cond := .code yX10_planSize cX10_planSize 1 (some .int) :: ((wsX10_planSize_r1 ++ (wsX10_planSize_r2 ++ (wsX10_planSize_r3 ++ (wsX10_planSize_r4 ++ (wsX10_planSize_r5 ++ (wsX10_planSize_r6 ++ (wsX10_planSize_r7 ++ (wsX10_planSize_r8 ++ wsX10_planSize_r9)))))))) ++ wsX100 ++ wsX20 ++ wsX30 ++ wsX50 ++ wsX70 ++ wsX40 ++ wsX90)
def wsX10_estimate_r1 : List Cond := [Cond.fieldLink RX10 31 "PostingPlanner" "plan" "LPostingPlanner$Plan;", Cond.fieldLink RX10 19 "PostingPlanner" "question" "LPostingPlanner$Question;", Cond.fieldLink RX10 10 "PostingPlanner" "shelf" "LPostingPlanner$Shelf;", Cond.fieldLink RX10 129 "PostingPlanner$Plan" "estimate" "I", Cond.sameField "PostingPlanner$Plan" "PostingPlanner$Part" "estimate" "I", Cond.methodLink RX10 118 yX2_make, Cond.instanceMethod yX2_make, Cond.selects RX2 yX2_make yX2_make, Cond.initialized RX2, Cond.code yX2_make cX2_make 7 none, Cond.fieldLink RX2 26 "PostingPlanner$Question" "kind" "I", Cond.fieldLink RX2 32 "PostingPlanner$Question" "need" "I", Cond.fieldLink RX2 11 "PostingPlanner$Plan" "clauses" "[LPostingPlanner$PlannedClause;", Cond.fieldLink RX2 55 "PostingPlanner$Plan" "size" "I", Cond.sameField "PostingPlanner$Plan" "PostingPlanner$Group" "size" "I", Cond.methodLink RX2 20 yX7_allThere, Cond.instanceMethod yX7_allThere, Cond.selects RX7 yX7_allThere yX7_allThere, Cond.initialized RX7, Cond.code yX7_allThere cX7_allThere 4 (some .long), Cond.fieldLink RX7 9 "PostingPlanner$Shelf" "words" "[I", Cond.methodLink RX2 35 ⟨"PostingPlanner$Plan", "restart", "(IIJ)V"⟩, Cond.sameMethod "PostingPlanner$Plan" "PostingPlanner$Group" "restart" "(IIJ)V", Cond.selects RX2 ⟨"PostingPlanner$Plan", "restart", "(IIJ)V"⟩ yX0_restart]
def wsX10_estimate_r2 : List Cond := [Cond.instanceMethod yX0_restart, Cond.initialized RX0, Cond.code yX0_restart cX0_restart 5 none, Cond.fieldLink RX0 15 "PostingPlanner$Group" "kind" "I", Cond.fieldLink RX0 19 "PostingPlanner$Group" "need" "I", Cond.fieldLink RX0 22 "PostingPlanner$Group" "size" "I", Cond.fieldLink RX0 25 "PostingPlanner$Group" "there" "J", Cond.fieldLink RX0 29 "PostingPlanner$Group" "place" "I", Cond.sameField "PostingPlanner$Group" "PostingPlanner$Part" "place" "I", Cond.methodLink RX2 39 ⟨"PostingPlanner$Plan", "isFixed", "()Z"⟩, Cond.sameMethod "PostingPlanner$Plan" "PostingPlanner$Group" "isFixed" "()Z", Cond.selects RX2 ⟨"PostingPlanner$Plan", "isFixed", "()Z"⟩ yX0_isFixed, Cond.instanceMethod yX0_isFixed, Cond.code yX0_isFixed cX0_isFixed 1 (some .boolean), Cond.methodLink RX2 43 yX5_toldAt, Cond.instanceMethod yX5_toldAt, Cond.selects RX5 yX5_toldAt yX5_toldAt, Cond.initialized RX5, Cond.code yX5_toldAt cX5_toldAt 2 (some (.object "PostingPlanner$ToldClause")), Cond.fieldLink RX5 22 "PostingPlanner$Question" "size" "I", Cond.fieldLink RX5 11 "PostingPlanner$Question" "clauses" "[LPostingPlanner$ToldClause;", Cond.methodLink RX2 47 yX3_make, Cond.instanceMethod yX3_make, Cond.selects RX3 yX3_make yX3_make]
def wsX10_estimate_r3 : List Cond := [Cond.initialized RX3, Cond.code yX3_make cX3_make 5 none, Cond.fieldLink RX3 24 "PostingPlanner$ToldClause" "kind" "I", Cond.fieldLink RX3 29 "PostingPlanner$ToldClause" "need" "I", Cond.fieldLink RX3 36 "PostingPlanner$ToldClause" "isNegated" "Z", Cond.fieldLink RX3 40 "PostingPlanner$ToldClause" "size" "I", Cond.methodLink RX3 32 ⟨"PostingPlanner$PlannedClause", "restart", "(IIJ)V"⟩, Cond.sameMethod "PostingPlanner$PlannedClause" "PostingPlanner$Group" "restart" "(IIJ)V", Cond.selects RX3 ⟨"PostingPlanner$PlannedClause", "restart", "(IIJ)V"⟩ yX0_restart, Cond.methodLink RX3 43 yX3_turn, Cond.instanceMethod yX3_turn, Cond.selects RX3 yX3_turn yX3_turn, Cond.code yX3_turn cX3_turn 2 none, Cond.fieldLink RX3 66 "PostingPlanner$PlannedClause" "kind" "I", Cond.sameField "PostingPlanner$PlannedClause" "PostingPlanner$Group" "kind" "I", Cond.fieldLink RX3 67 "PostingPlanner$PlannedClause" "need" "I", Cond.sameField "PostingPlanner$PlannedClause" "PostingPlanner$Group" "need" "I", Cond.methodLink RX3 47 ⟨"PostingPlanner$PlannedClause", "settleSome", "(I)V"⟩, Cond.sameMethod "PostingPlanner$PlannedClause" "PostingPlanner$Group" "settleSome" "(I)V", Cond.selects RX3 ⟨"PostingPlanner$PlannedClause", "settleSome", "(I)V"⟩ yX0_settleSome, Cond.instanceMethod yX0_settleSome, Cond.code yX0_settleSome cX0_settleSome 2 none, Cond.methodLink RX0 39 ⟨"PostingPlanner$Group", "fix", "(I)V"⟩, Cond.sameMethod "PostingPlanner$Group" "PostingPlanner$Group" "fix" "(I)V"]
def wsX10_estimate_r4 : List Cond := [Cond.selects RX2 ⟨"PostingPlanner$Group", "fix", "(I)V"⟩ yX0_fix, Cond.instanceMethod yX0_fix, Cond.code yX0_fix cX0_fix 2 none, Cond.selects RX3 ⟨"PostingPlanner$Group", "fix", "(I)V"⟩ yX0_fix, Cond.methodLink RX3 50 yX3_keepLiterals, Cond.instanceMethod yX3_keepLiterals, Cond.selects RX3 yX3_keepLiterals yX3_keepLiterals, Cond.code yX3_keepLiterals cX3_keepLiterals 7 none, Cond.fieldLink RX3 72 "PostingPlanner$ToldClause" "codes" "[I", Cond.fieldLink RX3 17 "PostingPlanner$PlannedClause" "literals" "[LPostingPlanner$PlannedLiteral;", Cond.methodLink RX3 68 ⟨"PostingPlanner$PlannedClause", "isFixed", "()Z"⟩, Cond.sameMethod "PostingPlanner$PlannedClause" "PostingPlanner$Group" "isFixed" "()Z", Cond.selects RX3 ⟨"PostingPlanner$PlannedClause", "isFixed", "()Z"⟩ yX0_isFixed, Cond.static yX10_contraryOf, Cond.initialized RX10, Cond.code yX10_contraryOf cX10_contraryOf 1 (some .int), Cond.methodLink RX3 80 ⟨"PostingPlanner$PlannedClause", "hasRank", "(I)Z"⟩, Cond.sameMethod "PostingPlanner$PlannedClause" "PostingPlanner$Group" "hasRank" "(I)Z", Cond.selects RX3 ⟨"PostingPlanner$PlannedClause", "hasRank", "(I)Z"⟩ yX0_hasRank, Cond.instanceMethod yX0_hasRank, Cond.code yX0_hasRank cX0_hasRank 4 (some .boolean), Cond.fieldLink RX0 36 "PostingPlanner$Part" "rank" "I", Cond.methodLink RX0 32 ⟨"PostingPlanner$Group", "partAt", "(I)LPostingPlanner$Part;"⟩, Cond.sameMethod "PostingPlanner$Group" "PostingPlanner$Group" "partAt" "(I)LPostingPlanner$Part;"]
def wsX10_estimate_r5 : List Cond := [Cond.selects RX2 ⟨"PostingPlanner$Group", "partAt", "(I)LPostingPlanner$Part;"⟩ yX0_partAt, Cond.instanceMethod yX0_partAt, Cond.code yX0_partAt cX0_partAt 2 (some (.object "PostingPlanner$Part")), Cond.fieldLink RX0 9 "PostingPlanner$Group" "parts" "[LPostingPlanner$Part;", Cond.selects RX3 ⟨"PostingPlanner$Group", "partAt", "(I)LPostingPlanner$Part;"⟩ yX0_partAt, Cond.methodLink RX3 84 yX7_truthsOf, Cond.instanceMethod yX7_truthsOf, Cond.selects RX7 yX7_truthsOf yX7_truthsOf, Cond.code yX7_truthsOf cX7_truthsOf 5 (some .long), Cond.static yX10_isLiteralTrue, Cond.code yX10_isLiteralTrue cX10_isLiteralTrue 2 (some .boolean), Cond.methodLink RX3 90 yX4_make, Cond.instanceMethod yX4_make, Cond.selects RX4 yX4_make yX4_make, Cond.initialized RX4, Cond.code yX4_make cX4_make 6 none, Cond.fieldLink RX4 15 "PostingPlanner$PlannedLiteral" "there" "J", Cond.fieldLink RX4 19 "PostingPlanner$PlannedLiteral" "truths" "J", Cond.fieldLink RX4 22 "PostingPlanner$PlannedLiteral" "rank" "I", Cond.sameField "PostingPlanner$PlannedLiteral" "PostingPlanner$Part" "rank" "I", Cond.fieldLink RX4 32 "PostingPlanner$PlannedLiteral" "estimate" "I", Cond.sameField "PostingPlanner$PlannedLiteral" "PostingPlanner$Part" "estimate" "I", Cond.fieldLink RX4 35 "PostingPlanner$PlannedLiteral" "place" "I", Cond.sameField "PostingPlanner$PlannedLiteral" "PostingPlanner$Part" "place" "I"]
def wsX10_estimate_r6 : List Cond := [Cond.methodLink RX4 26 yJ13_bitCount_95d88, Cond.static yJ13_bitCount_95d88, Cond.initialized RJ13, Cond.code yJ13_bitCount_95d88 cJ13_bitCount_95d88 2 (some .int), Cond.constantLong RJ13 314 (6148914691236517205), Cond.constantLong RJ13 316 (3689348814741910323), Cond.constantLong RJ13 318 (1085102592571150095), Cond.methodLink RX3 94 ⟨"PostingPlanner$PlannedClause", "keep", "(LPostingPlanner$Part;)V"⟩, Cond.sameMethod "PostingPlanner$PlannedClause" "PostingPlanner$Group" "keep" "(LPostingPlanner$Part;)V", Cond.selects RX3 ⟨"PostingPlanner$PlannedClause", "keep", "(LPostingPlanner$Part;)V"⟩ yX0_keep, Cond.instanceMethod yX0_keep, Cond.code yX0_keep cX0_keep 2 none, Cond.methodLink RX3 54 yX3_settleContraries, Cond.instanceMethod yX3_settleContraries, Cond.selects RX3 yX3_settleContraries yX3_settleContraries, Cond.code yX3_settleContraries cX3_settleContraries 3 none, Cond.fieldLink RX3 98 "PostingPlanner$PlannedClause" "size" "I", Cond.sameField "PostingPlanner$PlannedClause" "PostingPlanner$Group" "size" "I", Cond.fieldLink RX3 103 "PostingPlanner$Part" "rank" "I", Cond.methodLink RX3 99 ⟨"PostingPlanner$PlannedClause", "partAt", "(I)LPostingPlanner$Part;"⟩, Cond.sameMethod "PostingPlanner$PlannedClause" "PostingPlanner$Group" "partAt" "(I)LPostingPlanner$Part;", Cond.selects RX3 ⟨"PostingPlanner$PlannedClause", "partAt", "(I)LPostingPlanner$Part;"⟩ yX0_partAt, Cond.methodLink RX3 106 ⟨"PostingPlanner$PlannedClause", "fix", "(I)V"⟩, Cond.sameMethod "PostingPlanner$PlannedClause" "PostingPlanner$Group" "fix" "(I)V"]
def wsX10_estimate_r7 : List Cond := [Cond.selects RX3 ⟨"PostingPlanner$PlannedClause", "fix", "(I)V"⟩ yX0_fix, Cond.methodLink RX3 57 ⟨"PostingPlanner$PlannedClause", "settleEmpty", "()V"⟩, Cond.sameMethod "PostingPlanner$PlannedClause" "PostingPlanner$Group" "settleEmpty" "()V", Cond.selects RX3 ⟨"PostingPlanner$PlannedClause", "settleEmpty", "()V"⟩ yX0_settleEmpty, Cond.instanceMethod yX0_settleEmpty, Cond.code yX0_settleEmpty cX0_settleEmpty 1 none, Cond.methodLink RX3 60 ⟨"PostingPlanner$PlannedClause", "appraise", "()V"⟩, Cond.sameMethod "PostingPlanner$PlannedClause" "PostingPlanner$Group" "appraise" "()V", Cond.selects RX3 ⟨"PostingPlanner$PlannedClause", "appraise", "()V"⟩ yX0_appraise, Cond.instanceMethod yX0_appraise, Cond.code yX0_appraise cX0_appraise 2 none, Cond.fieldLink RX0 53 "PostingPlanner$Group" "estimate" "I", Cond.sameField "PostingPlanner$Group" "PostingPlanner$Part" "estimate" "I", Cond.methodLink RX0 60 Lib.Math.min.name, Cond.static Lib.Math.min.name, Cond.initialized "java/lang/Math", Cond.code Lib.Math.min.name Lib.Math.min.code 2 (some .int), Cond.methodLink RX0 43 yJ13_bitCount_95d88, Cond.methodLink RX0 49 ⟨"PostingPlanner$Group", "leastEstimate", "(I)I"⟩, Cond.sameMethod "PostingPlanner$Group" "PostingPlanner$Group" "leastEstimate" "(I)I", Cond.selects RX2 ⟨"PostingPlanner$Group", "leastEstimate", "(I)I"⟩ yX0_leastEstimate, Cond.instanceMethod yX0_leastEstimate, Cond.code yX0_leastEstimate cX0_leastEstimate 5 (some .int), Cond.fieldLink RX0 66 "PostingPlanner$Part" "estimate" "I"]
def wsX10_estimate_r8 : List Cond := [Cond.selects RX3 ⟨"PostingPlanner$Group", "leastEstimate", "(I)I"⟩ yX0_leastEstimate, Cond.methodLink RX0 56 ⟨"PostingPlanner$Group", "sumOfEstimates", "()I"⟩, Cond.sameMethod "PostingPlanner$Group" "PostingPlanner$Group" "sumOfEstimates" "()I", Cond.selects RX2 ⟨"PostingPlanner$Group", "sumOfEstimates", "()I"⟩ yX0_sumOfEstimates, Cond.instanceMethod yX0_sumOfEstimates, Cond.code yX0_sumOfEstimates cX0_sumOfEstimates 4 (some .int), Cond.selects RX3 ⟨"PostingPlanner$Group", "sumOfEstimates", "()I"⟩ yX0_sumOfEstimates, Cond.methodLink RX3 63 ⟨"PostingPlanner$PlannedClause", "order", "()V"⟩, Cond.sameMethod "PostingPlanner$PlannedClause" "PostingPlanner$Group" "order" "()V", Cond.selects RX3 ⟨"PostingPlanner$PlannedClause", "order", "()V"⟩ yX0_order, Cond.instanceMethod yX0_order, Cond.code yX0_order cX0_order 4 none, Cond.methodLink RX0 67 ⟨"PostingPlanner$Group", "isBefore", "(LPostingPlanner$Part;LPostingPlanner$Part;)Z"⟩, Cond.sameMethod "PostingPlanner$Group" "PostingPlanner$Group" "isBefore" "(LPostingPlanner$Part;LPostingPlanner$Part;)Z", Cond.selects RX2 ⟨"PostingPlanner$Group", "isBefore", "(LPostingPlanner$Part;LPostingPlanner$Part;)Z"⟩ yX0_isBefore, Cond.instanceMethod yX0_isBefore, Cond.code yX0_isBefore cX0_isBefore 3 (some .boolean), Cond.selects RX3 ⟨"PostingPlanner$Group", "isBefore", "(LPostingPlanner$Part;LPostingPlanner$Part;)Z"⟩ yX0_isBefore, Cond.methodLink RX2 51 yX2_takeIn, Cond.instanceMethod yX2_takeIn, Cond.selects RX2 yX2_takeIn yX2_takeIn, Cond.code yX2_takeIn cX2_takeIn 2 none, Cond.fieldLink RX2 76 "PostingPlanner$PlannedClause" "kind" "I", Cond.fieldLink RX2 77 "PostingPlanner$Plan" "kind" "I"]
def wsX10_estimate_r9 : List Cond := [Cond.sameField "PostingPlanner$Plan" "PostingPlanner$Group" "kind" "I", Cond.fieldLink RX2 78 "PostingPlanner$Plan" "need" "I", Cond.sameField "PostingPlanner$Plan" "PostingPlanner$Group" "need" "I", Cond.methodLink RX2 71 ⟨"PostingPlanner$PlannedClause", "isFixed", "()Z"⟩, Cond.methodLink RX2 72 ⟨"PostingPlanner$Plan", "keep", "(LPostingPlanner$Part;)V"⟩, Cond.sameMethod "PostingPlanner$Plan" "PostingPlanner$Group" "keep" "(LPostingPlanner$Part;)V", Cond.selects RX2 ⟨"PostingPlanner$Plan", "keep", "(LPostingPlanner$Part;)V"⟩ yX0_keep, Cond.methodLink RX2 79 ⟨"PostingPlanner$Plan", "fix", "(I)V"⟩, Cond.sameMethod "PostingPlanner$Plan" "PostingPlanner$Group" "fix" "(I)V", Cond.selects RX2 ⟨"PostingPlanner$Plan", "fix", "(I)V"⟩ yX0_fix, Cond.methodLink RX2 58 ⟨"PostingPlanner$Plan", "settleSome", "(I)V"⟩, Cond.sameMethod "PostingPlanner$Plan" "PostingPlanner$Group" "settleSome" "(I)V", Cond.selects RX2 ⟨"PostingPlanner$Plan", "settleSome", "(I)V"⟩ yX0_settleSome, Cond.methodLink RX2 62 ⟨"PostingPlanner$Plan", "settleEmpty", "()V"⟩, Cond.sameMethod "PostingPlanner$Plan" "PostingPlanner$Group" "settleEmpty" "()V", Cond.selects RX2 ⟨"PostingPlanner$Plan", "settleEmpty", "()V"⟩ yX0_settleEmpty, Cond.methodLink RX2 65 ⟨"PostingPlanner$Plan", "appraise", "()V"⟩, Cond.sameMethod "PostingPlanner$Plan" "PostingPlanner$Group" "appraise" "()V", Cond.selects RX2 ⟨"PostingPlanner$Plan", "appraise", "()V"⟩ yX0_appraise, Cond.methodLink RX2 68 ⟨"PostingPlanner$Plan", "order", "()V"⟩, Cond.sameMethod "PostingPlanner$Plan" "PostingPlanner$Group" "order" "()V", Cond.selects RX2 ⟨"PostingPlanner$Plan", "order", "()V"⟩ yX0_order]
def wsX10_estimate : List Cond := .code yX10_estimate cX10_estimate 1 (some .int) :: ((wsX10_estimate_r1 ++ (wsX10_estimate_r2 ++ (wsX10_estimate_r3 ++ (wsX10_estimate_r4 ++ (wsX10_estimate_r5 ++ (wsX10_estimate_r6 ++ (wsX10_estimate_r7 ++ (wsX10_estimate_r8 ++ wsX10_estimate_r9)))))))) ++ wsX100 ++ wsX20 ++ wsX30 ++ wsX40 ++ wsX50 ++ wsX70 ++ wsX90)
def wsX10_plannedClause_r1 : List Cond := [Cond.classLink RX10 46 "java/lang/IllegalArgumentException", Cond.initialized "java/lang/IllegalArgumentException", Cond.fieldLink RX10 31 "PostingPlanner" "plan" "LPostingPlanner$Plan;", Cond.fieldLink RX10 19 "PostingPlanner" "question" "LPostingPlanner$Question;", Cond.fieldLink RX10 10 "PostingPlanner" "shelf" "LPostingPlanner$Shelf;", Cond.methodLink RX10 118 yX2_make, Cond.instanceMethod yX2_make, Cond.selects RX2 yX2_make yX2_make, Cond.initialized RX2, Cond.code yX2_make cX2_make 7 none, Cond.fieldLink RX2 26 "PostingPlanner$Question" "kind" "I", Cond.fieldLink RX2 32 "PostingPlanner$Question" "need" "I", Cond.fieldLink RX2 11 "PostingPlanner$Plan" "clauses" "[LPostingPlanner$PlannedClause;", Cond.fieldLink RX2 55 "PostingPlanner$Plan" "size" "I", Cond.sameField "PostingPlanner$Plan" "PostingPlanner$Group" "size" "I", Cond.methodLink RX2 20 yX7_allThere, Cond.instanceMethod yX7_allThere, Cond.selects RX7 yX7_allThere yX7_allThere, Cond.initialized RX7, Cond.code yX7_allThere cX7_allThere 4 (some .long), Cond.fieldLink RX7 9 "PostingPlanner$Shelf" "words" "[I", Cond.methodLink RX2 35 ⟨"PostingPlanner$Plan", "restart", "(IIJ)V"⟩, Cond.sameMethod "PostingPlanner$Plan" "PostingPlanner$Group" "restart" "(IIJ)V", Cond.selects RX2 ⟨"PostingPlanner$Plan", "restart", "(IIJ)V"⟩ yX0_restart]
def wsX10_plannedClause_r2 : List Cond := [Cond.instanceMethod yX0_restart, Cond.initialized RX0, Cond.code yX0_restart cX0_restart 5 none, Cond.fieldLink RX0 15 "PostingPlanner$Group" "kind" "I", Cond.fieldLink RX0 19 "PostingPlanner$Group" "need" "I", Cond.fieldLink RX0 22 "PostingPlanner$Group" "size" "I", Cond.fieldLink RX0 25 "PostingPlanner$Group" "there" "J", Cond.fieldLink RX0 29 "PostingPlanner$Group" "place" "I", Cond.sameField "PostingPlanner$Group" "PostingPlanner$Part" "place" "I", Cond.methodLink RX2 39 ⟨"PostingPlanner$Plan", "isFixed", "()Z"⟩, Cond.sameMethod "PostingPlanner$Plan" "PostingPlanner$Group" "isFixed" "()Z", Cond.selects RX2 ⟨"PostingPlanner$Plan", "isFixed", "()Z"⟩ yX0_isFixed, Cond.instanceMethod yX0_isFixed, Cond.code yX0_isFixed cX0_isFixed 1 (some .boolean), Cond.methodLink RX2 43 yX5_toldAt, Cond.instanceMethod yX5_toldAt, Cond.selects RX5 yX5_toldAt yX5_toldAt, Cond.initialized RX5, Cond.code yX5_toldAt cX5_toldAt 2 (some (.object "PostingPlanner$ToldClause")), Cond.fieldLink RX5 22 "PostingPlanner$Question" "size" "I", Cond.fieldLink RX5 11 "PostingPlanner$Question" "clauses" "[LPostingPlanner$ToldClause;", Cond.methodLink RX2 47 yX3_make, Cond.instanceMethod yX3_make, Cond.selects RX3 yX3_make yX3_make]
def wsX10_plannedClause_r3 : List Cond := [Cond.initialized RX3, Cond.code yX3_make cX3_make 5 none, Cond.fieldLink RX3 24 "PostingPlanner$ToldClause" "kind" "I", Cond.fieldLink RX3 29 "PostingPlanner$ToldClause" "need" "I", Cond.fieldLink RX3 36 "PostingPlanner$ToldClause" "isNegated" "Z", Cond.fieldLink RX3 40 "PostingPlanner$ToldClause" "size" "I", Cond.methodLink RX3 32 ⟨"PostingPlanner$PlannedClause", "restart", "(IIJ)V"⟩, Cond.sameMethod "PostingPlanner$PlannedClause" "PostingPlanner$Group" "restart" "(IIJ)V", Cond.selects RX3 ⟨"PostingPlanner$PlannedClause", "restart", "(IIJ)V"⟩ yX0_restart, Cond.methodLink RX3 43 yX3_turn, Cond.instanceMethod yX3_turn, Cond.selects RX3 yX3_turn yX3_turn, Cond.code yX3_turn cX3_turn 2 none, Cond.fieldLink RX3 66 "PostingPlanner$PlannedClause" "kind" "I", Cond.sameField "PostingPlanner$PlannedClause" "PostingPlanner$Group" "kind" "I", Cond.fieldLink RX3 67 "PostingPlanner$PlannedClause" "need" "I", Cond.sameField "PostingPlanner$PlannedClause" "PostingPlanner$Group" "need" "I", Cond.methodLink RX3 47 ⟨"PostingPlanner$PlannedClause", "settleSome", "(I)V"⟩, Cond.sameMethod "PostingPlanner$PlannedClause" "PostingPlanner$Group" "settleSome" "(I)V", Cond.selects RX3 ⟨"PostingPlanner$PlannedClause", "settleSome", "(I)V"⟩ yX0_settleSome, Cond.instanceMethod yX0_settleSome, Cond.code yX0_settleSome cX0_settleSome 2 none, Cond.methodLink RX0 39 ⟨"PostingPlanner$Group", "fix", "(I)V"⟩, Cond.sameMethod "PostingPlanner$Group" "PostingPlanner$Group" "fix" "(I)V"]
def wsX10_plannedClause_r4 : List Cond := [Cond.selects RX2 ⟨"PostingPlanner$Group", "fix", "(I)V"⟩ yX0_fix, Cond.instanceMethod yX0_fix, Cond.code yX0_fix cX0_fix 2 none, Cond.selects RX3 ⟨"PostingPlanner$Group", "fix", "(I)V"⟩ yX0_fix, Cond.methodLink RX3 50 yX3_keepLiterals, Cond.instanceMethod yX3_keepLiterals, Cond.selects RX3 yX3_keepLiterals yX3_keepLiterals, Cond.code yX3_keepLiterals cX3_keepLiterals 7 none, Cond.fieldLink RX3 72 "PostingPlanner$ToldClause" "codes" "[I", Cond.fieldLink RX3 17 "PostingPlanner$PlannedClause" "literals" "[LPostingPlanner$PlannedLiteral;", Cond.methodLink RX3 68 ⟨"PostingPlanner$PlannedClause", "isFixed", "()Z"⟩, Cond.sameMethod "PostingPlanner$PlannedClause" "PostingPlanner$Group" "isFixed" "()Z", Cond.selects RX3 ⟨"PostingPlanner$PlannedClause", "isFixed", "()Z"⟩ yX0_isFixed, Cond.static yX10_contraryOf, Cond.initialized RX10, Cond.code yX10_contraryOf cX10_contraryOf 1 (some .int), Cond.methodLink RX3 80 ⟨"PostingPlanner$PlannedClause", "hasRank", "(I)Z"⟩, Cond.sameMethod "PostingPlanner$PlannedClause" "PostingPlanner$Group" "hasRank" "(I)Z", Cond.selects RX3 ⟨"PostingPlanner$PlannedClause", "hasRank", "(I)Z"⟩ yX0_hasRank, Cond.instanceMethod yX0_hasRank, Cond.code yX0_hasRank cX0_hasRank 4 (some .boolean), Cond.fieldLink RX0 36 "PostingPlanner$Part" "rank" "I", Cond.methodLink RX0 32 ⟨"PostingPlanner$Group", "partAt", "(I)LPostingPlanner$Part;"⟩, Cond.sameMethod "PostingPlanner$Group" "PostingPlanner$Group" "partAt" "(I)LPostingPlanner$Part;"]
def wsX10_plannedClause_r5 : List Cond := [Cond.selects RX2 ⟨"PostingPlanner$Group", "partAt", "(I)LPostingPlanner$Part;"⟩ yX0_partAt, Cond.instanceMethod yX0_partAt, Cond.code yX0_partAt cX0_partAt 2 (some (.object "PostingPlanner$Part")), Cond.fieldLink RX0 9 "PostingPlanner$Group" "parts" "[LPostingPlanner$Part;", Cond.selects RX3 ⟨"PostingPlanner$Group", "partAt", "(I)LPostingPlanner$Part;"⟩ yX0_partAt, Cond.methodLink RX3 84 yX7_truthsOf, Cond.instanceMethod yX7_truthsOf, Cond.selects RX7 yX7_truthsOf yX7_truthsOf, Cond.code yX7_truthsOf cX7_truthsOf 5 (some .long), Cond.static yX10_isLiteralTrue, Cond.code yX10_isLiteralTrue cX10_isLiteralTrue 2 (some .boolean), Cond.methodLink RX3 90 yX4_make, Cond.instanceMethod yX4_make, Cond.selects RX4 yX4_make yX4_make, Cond.initialized RX4, Cond.code yX4_make cX4_make 6 none, Cond.fieldLink RX4 15 "PostingPlanner$PlannedLiteral" "there" "J", Cond.fieldLink RX4 19 "PostingPlanner$PlannedLiteral" "truths" "J", Cond.fieldLink RX4 22 "PostingPlanner$PlannedLiteral" "rank" "I", Cond.sameField "PostingPlanner$PlannedLiteral" "PostingPlanner$Part" "rank" "I", Cond.fieldLink RX4 32 "PostingPlanner$PlannedLiteral" "estimate" "I", Cond.sameField "PostingPlanner$PlannedLiteral" "PostingPlanner$Part" "estimate" "I", Cond.fieldLink RX4 35 "PostingPlanner$PlannedLiteral" "place" "I", Cond.sameField "PostingPlanner$PlannedLiteral" "PostingPlanner$Part" "place" "I"]
def wsX10_plannedClause_r6 : List Cond := [Cond.methodLink RX4 26 yJ13_bitCount_95d88, Cond.static yJ13_bitCount_95d88, Cond.initialized RJ13, Cond.code yJ13_bitCount_95d88 cJ13_bitCount_95d88 2 (some .int), Cond.constantLong RJ13 314 (6148914691236517205), Cond.constantLong RJ13 316 (3689348814741910323), Cond.constantLong RJ13 318 (1085102592571150095), Cond.methodLink RX3 94 ⟨"PostingPlanner$PlannedClause", "keep", "(LPostingPlanner$Part;)V"⟩, Cond.sameMethod "PostingPlanner$PlannedClause" "PostingPlanner$Group" "keep" "(LPostingPlanner$Part;)V", Cond.selects RX3 ⟨"PostingPlanner$PlannedClause", "keep", "(LPostingPlanner$Part;)V"⟩ yX0_keep, Cond.instanceMethod yX0_keep, Cond.code yX0_keep cX0_keep 2 none, Cond.methodLink RX3 54 yX3_settleContraries, Cond.instanceMethod yX3_settleContraries, Cond.selects RX3 yX3_settleContraries yX3_settleContraries, Cond.code yX3_settleContraries cX3_settleContraries 3 none, Cond.fieldLink RX3 98 "PostingPlanner$PlannedClause" "size" "I", Cond.sameField "PostingPlanner$PlannedClause" "PostingPlanner$Group" "size" "I", Cond.fieldLink RX3 103 "PostingPlanner$Part" "rank" "I", Cond.methodLink RX3 99 ⟨"PostingPlanner$PlannedClause", "partAt", "(I)LPostingPlanner$Part;"⟩, Cond.sameMethod "PostingPlanner$PlannedClause" "PostingPlanner$Group" "partAt" "(I)LPostingPlanner$Part;", Cond.selects RX3 ⟨"PostingPlanner$PlannedClause", "partAt", "(I)LPostingPlanner$Part;"⟩ yX0_partAt, Cond.methodLink RX3 106 ⟨"PostingPlanner$PlannedClause", "fix", "(I)V"⟩, Cond.sameMethod "PostingPlanner$PlannedClause" "PostingPlanner$Group" "fix" "(I)V"]
def wsX10_plannedClause_r7 : List Cond := [Cond.selects RX3 ⟨"PostingPlanner$PlannedClause", "fix", "(I)V"⟩ yX0_fix, Cond.methodLink RX3 57 ⟨"PostingPlanner$PlannedClause", "settleEmpty", "()V"⟩, Cond.sameMethod "PostingPlanner$PlannedClause" "PostingPlanner$Group" "settleEmpty" "()V", Cond.selects RX3 ⟨"PostingPlanner$PlannedClause", "settleEmpty", "()V"⟩ yX0_settleEmpty, Cond.instanceMethod yX0_settleEmpty, Cond.code yX0_settleEmpty cX0_settleEmpty 1 none, Cond.methodLink RX3 60 ⟨"PostingPlanner$PlannedClause", "appraise", "()V"⟩, Cond.sameMethod "PostingPlanner$PlannedClause" "PostingPlanner$Group" "appraise" "()V", Cond.selects RX3 ⟨"PostingPlanner$PlannedClause", "appraise", "()V"⟩ yX0_appraise, Cond.instanceMethod yX0_appraise, Cond.code yX0_appraise cX0_appraise 2 none, Cond.fieldLink RX0 53 "PostingPlanner$Group" "estimate" "I", Cond.sameField "PostingPlanner$Group" "PostingPlanner$Part" "estimate" "I", Cond.methodLink RX0 60 Lib.Math.min.name, Cond.static Lib.Math.min.name, Cond.initialized "java/lang/Math", Cond.code Lib.Math.min.name Lib.Math.min.code 2 (some .int), Cond.methodLink RX0 43 yJ13_bitCount_95d88, Cond.methodLink RX0 49 ⟨"PostingPlanner$Group", "leastEstimate", "(I)I"⟩, Cond.sameMethod "PostingPlanner$Group" "PostingPlanner$Group" "leastEstimate" "(I)I", Cond.selects RX2 ⟨"PostingPlanner$Group", "leastEstimate", "(I)I"⟩ yX0_leastEstimate, Cond.instanceMethod yX0_leastEstimate, Cond.code yX0_leastEstimate cX0_leastEstimate 5 (some .int), Cond.fieldLink RX0 66 "PostingPlanner$Part" "estimate" "I"]
def wsX10_plannedClause_r8 : List Cond := [Cond.selects RX3 ⟨"PostingPlanner$Group", "leastEstimate", "(I)I"⟩ yX0_leastEstimate, Cond.methodLink RX0 56 ⟨"PostingPlanner$Group", "sumOfEstimates", "()I"⟩, Cond.sameMethod "PostingPlanner$Group" "PostingPlanner$Group" "sumOfEstimates" "()I", Cond.selects RX2 ⟨"PostingPlanner$Group", "sumOfEstimates", "()I"⟩ yX0_sumOfEstimates, Cond.instanceMethod yX0_sumOfEstimates, Cond.code yX0_sumOfEstimates cX0_sumOfEstimates 4 (some .int), Cond.selects RX3 ⟨"PostingPlanner$Group", "sumOfEstimates", "()I"⟩ yX0_sumOfEstimates, Cond.methodLink RX3 63 ⟨"PostingPlanner$PlannedClause", "order", "()V"⟩, Cond.sameMethod "PostingPlanner$PlannedClause" "PostingPlanner$Group" "order" "()V", Cond.selects RX3 ⟨"PostingPlanner$PlannedClause", "order", "()V"⟩ yX0_order, Cond.instanceMethod yX0_order, Cond.code yX0_order cX0_order 4 none, Cond.methodLink RX0 67 ⟨"PostingPlanner$Group", "isBefore", "(LPostingPlanner$Part;LPostingPlanner$Part;)Z"⟩, Cond.sameMethod "PostingPlanner$Group" "PostingPlanner$Group" "isBefore" "(LPostingPlanner$Part;LPostingPlanner$Part;)Z", Cond.selects RX2 ⟨"PostingPlanner$Group", "isBefore", "(LPostingPlanner$Part;LPostingPlanner$Part;)Z"⟩ yX0_isBefore, Cond.instanceMethod yX0_isBefore, Cond.code yX0_isBefore cX0_isBefore 3 (some .boolean), Cond.selects RX3 ⟨"PostingPlanner$Group", "isBefore", "(LPostingPlanner$Part;LPostingPlanner$Part;)Z"⟩ yX0_isBefore, Cond.methodLink RX2 51 yX2_takeIn, Cond.instanceMethod yX2_takeIn, Cond.selects RX2 yX2_takeIn yX2_takeIn, Cond.code yX2_takeIn cX2_takeIn 2 none, Cond.fieldLink RX2 76 "PostingPlanner$PlannedClause" "kind" "I", Cond.fieldLink RX2 77 "PostingPlanner$Plan" "kind" "I"]
def wsX10_plannedClause_r9 : List Cond := [Cond.sameField "PostingPlanner$Plan" "PostingPlanner$Group" "kind" "I", Cond.fieldLink RX2 78 "PostingPlanner$Plan" "need" "I", Cond.sameField "PostingPlanner$Plan" "PostingPlanner$Group" "need" "I", Cond.methodLink RX2 71 ⟨"PostingPlanner$PlannedClause", "isFixed", "()Z"⟩, Cond.methodLink RX2 72 ⟨"PostingPlanner$Plan", "keep", "(LPostingPlanner$Part;)V"⟩, Cond.sameMethod "PostingPlanner$Plan" "PostingPlanner$Group" "keep" "(LPostingPlanner$Part;)V", Cond.selects RX2 ⟨"PostingPlanner$Plan", "keep", "(LPostingPlanner$Part;)V"⟩ yX0_keep, Cond.methodLink RX2 79 ⟨"PostingPlanner$Plan", "fix", "(I)V"⟩, Cond.sameMethod "PostingPlanner$Plan" "PostingPlanner$Group" "fix" "(I)V", Cond.selects RX2 ⟨"PostingPlanner$Plan", "fix", "(I)V"⟩ yX0_fix, Cond.methodLink RX2 58 ⟨"PostingPlanner$Plan", "settleSome", "(I)V"⟩, Cond.sameMethod "PostingPlanner$Plan" "PostingPlanner$Group" "settleSome" "(I)V", Cond.selects RX2 ⟨"PostingPlanner$Plan", "settleSome", "(I)V"⟩ yX0_settleSome, Cond.methodLink RX2 62 ⟨"PostingPlanner$Plan", "settleEmpty", "()V"⟩, Cond.sameMethod "PostingPlanner$Plan" "PostingPlanner$Group" "settleEmpty" "()V", Cond.selects RX2 ⟨"PostingPlanner$Plan", "settleEmpty", "()V"⟩ yX0_settleEmpty, Cond.methodLink RX2 65 ⟨"PostingPlanner$Plan", "appraise", "()V"⟩, Cond.sameMethod "PostingPlanner$Plan" "PostingPlanner$Group" "appraise" "()V", Cond.selects RX2 ⟨"PostingPlanner$Plan", "appraise", "()V"⟩ yX0_appraise, Cond.methodLink RX2 68 ⟨"PostingPlanner$Plan", "order", "()V"⟩, Cond.sameMethod "PostingPlanner$Plan" "PostingPlanner$Group" "order" "()V", Cond.selects RX2 ⟨"PostingPlanner$Plan", "order", "()V"⟩ yX0_order, Cond.methodLink RX10 189 yX2_plannedAt, Cond.instanceMethod yX2_plannedAt]
def wsX10_plannedClause_r10 : List Cond := [Cond.selects RX2 yX2_plannedAt yX2_plannedAt, Cond.code yX2_plannedAt cX2_plannedAt 3 (some (.object "PostingPlanner$PlannedClause")), Cond.fieldLink RX2 86 "PostingPlanner$Part" "rank" "I", Cond.methodLink RX2 82 ⟨"PostingPlanner$Plan", "partAt", "(I)LPostingPlanner$Part;"⟩, Cond.sameMethod "PostingPlanner$Plan" "PostingPlanner$Group" "partAt" "(I)LPostingPlanner$Part;", Cond.selects RX2 ⟨"PostingPlanner$Plan", "partAt", "(I)LPostingPlanner$Part;"⟩ yX0_partAt]
def wsX10_plannedClause : List Cond := .code yX10_plannedClause cX10_plannedClause 3 (some (.object "PostingPlanner$PlannedClause")) :: ((wsX10_plannedClause_r1 ++ (wsX10_plannedClause_r2 ++ (wsX10_plannedClause_r3 ++ (wsX10_plannedClause_r4 ++ (wsX10_plannedClause_r5 ++ (wsX10_plannedClause_r6 ++ (wsX10_plannedClause_r7 ++ (wsX10_plannedClause_r8 ++ (wsX10_plannedClause_r9 ++ wsX10_plannedClause_r10))))))))) ++ wsX100 ++ wsX50 ++ wsX20 ++ wsX30 ++ wsX70 ++ wsX40 ++ wsX90 ++ (vx_atS RX10 50 "java/lang/IllegalArgumentException" ["java/lang/RuntimeException", "java/lang/Exception"]).filter goodWord)
def wsX10_clauseAt_r1 : List Cond := [Cond.fieldLink RX10 136 "PostingPlanner$PlannedClause" "rank" "I", Cond.sameField "PostingPlanner$PlannedClause" "PostingPlanner$Part" "rank" "I", Cond.methodLink RX10 132 yX10_plannedClause, Cond.instanceMethod yX10_plannedClause, Cond.selects RX10 yX10_plannedClause yX10_plannedClause, Cond.initialized RX10, Cond.code yX10_plannedClause cX10_plannedClause 3 (some (.object "PostingPlanner$PlannedClause")), Cond.classLink RX10 46 "java/lang/IllegalArgumentException", Cond.initialized "java/lang/IllegalArgumentException", Cond.fieldLink RX10 31 "PostingPlanner" "plan" "LPostingPlanner$Plan;", Cond.fieldLink RX10 19 "PostingPlanner" "question" "LPostingPlanner$Question;", Cond.fieldLink RX10 10 "PostingPlanner" "shelf" "LPostingPlanner$Shelf;", Cond.methodLink RX10 118 yX2_make, Cond.instanceMethod yX2_make, Cond.selects RX2 yX2_make yX2_make, Cond.initialized RX2, Cond.code yX2_make cX2_make 7 none, Cond.fieldLink RX2 26 "PostingPlanner$Question" "kind" "I", Cond.fieldLink RX2 32 "PostingPlanner$Question" "need" "I", Cond.fieldLink RX2 11 "PostingPlanner$Plan" "clauses" "[LPostingPlanner$PlannedClause;", Cond.fieldLink RX2 55 "PostingPlanner$Plan" "size" "I", Cond.sameField "PostingPlanner$Plan" "PostingPlanner$Group" "size" "I", Cond.methodLink RX2 20 yX7_allThere, Cond.instanceMethod yX7_allThere]
def wsX10_clauseAt_r2 : List Cond := [Cond.selects RX7 yX7_allThere yX7_allThere, Cond.initialized RX7, Cond.code yX7_allThere cX7_allThere 4 (some .long), Cond.fieldLink RX7 9 "PostingPlanner$Shelf" "words" "[I", Cond.methodLink RX2 35 ⟨"PostingPlanner$Plan", "restart", "(IIJ)V"⟩, Cond.sameMethod "PostingPlanner$Plan" "PostingPlanner$Group" "restart" "(IIJ)V", Cond.selects RX2 ⟨"PostingPlanner$Plan", "restart", "(IIJ)V"⟩ yX0_restart, Cond.instanceMethod yX0_restart, Cond.initialized RX0, Cond.code yX0_restart cX0_restart 5 none, Cond.fieldLink RX0 15 "PostingPlanner$Group" "kind" "I", Cond.fieldLink RX0 19 "PostingPlanner$Group" "need" "I", Cond.fieldLink RX0 22 "PostingPlanner$Group" "size" "I", Cond.fieldLink RX0 25 "PostingPlanner$Group" "there" "J", Cond.fieldLink RX0 29 "PostingPlanner$Group" "place" "I", Cond.sameField "PostingPlanner$Group" "PostingPlanner$Part" "place" "I", Cond.methodLink RX2 39 ⟨"PostingPlanner$Plan", "isFixed", "()Z"⟩, Cond.sameMethod "PostingPlanner$Plan" "PostingPlanner$Group" "isFixed" "()Z", Cond.selects RX2 ⟨"PostingPlanner$Plan", "isFixed", "()Z"⟩ yX0_isFixed, Cond.instanceMethod yX0_isFixed, Cond.code yX0_isFixed cX0_isFixed 1 (some .boolean), Cond.methodLink RX2 43 yX5_toldAt, Cond.instanceMethod yX5_toldAt, Cond.selects RX5 yX5_toldAt yX5_toldAt]
def wsX10_clauseAt_r3 : List Cond := [Cond.initialized RX5, Cond.code yX5_toldAt cX5_toldAt 2 (some (.object "PostingPlanner$ToldClause")), Cond.fieldLink RX5 22 "PostingPlanner$Question" "size" "I", Cond.fieldLink RX5 11 "PostingPlanner$Question" "clauses" "[LPostingPlanner$ToldClause;", Cond.methodLink RX2 47 yX3_make, Cond.instanceMethod yX3_make, Cond.selects RX3 yX3_make yX3_make, Cond.initialized RX3, Cond.code yX3_make cX3_make 5 none, Cond.fieldLink RX3 24 "PostingPlanner$ToldClause" "kind" "I", Cond.fieldLink RX3 29 "PostingPlanner$ToldClause" "need" "I", Cond.fieldLink RX3 36 "PostingPlanner$ToldClause" "isNegated" "Z", Cond.fieldLink RX3 40 "PostingPlanner$ToldClause" "size" "I", Cond.methodLink RX3 32 ⟨"PostingPlanner$PlannedClause", "restart", "(IIJ)V"⟩, Cond.sameMethod "PostingPlanner$PlannedClause" "PostingPlanner$Group" "restart" "(IIJ)V", Cond.selects RX3 ⟨"PostingPlanner$PlannedClause", "restart", "(IIJ)V"⟩ yX0_restart, Cond.methodLink RX3 43 yX3_turn, Cond.instanceMethod yX3_turn, Cond.selects RX3 yX3_turn yX3_turn, Cond.code yX3_turn cX3_turn 2 none, Cond.fieldLink RX3 66 "PostingPlanner$PlannedClause" "kind" "I", Cond.sameField "PostingPlanner$PlannedClause" "PostingPlanner$Group" "kind" "I", Cond.fieldLink RX3 67 "PostingPlanner$PlannedClause" "need" "I", Cond.sameField "PostingPlanner$PlannedClause" "PostingPlanner$Group" "need" "I"]
def wsX10_clauseAt_r4 : List Cond := [Cond.methodLink RX3 47 ⟨"PostingPlanner$PlannedClause", "settleSome", "(I)V"⟩, Cond.sameMethod "PostingPlanner$PlannedClause" "PostingPlanner$Group" "settleSome" "(I)V", Cond.selects RX3 ⟨"PostingPlanner$PlannedClause", "settleSome", "(I)V"⟩ yX0_settleSome, Cond.instanceMethod yX0_settleSome, Cond.code yX0_settleSome cX0_settleSome 2 none, Cond.methodLink RX0 39 ⟨"PostingPlanner$Group", "fix", "(I)V"⟩, Cond.sameMethod "PostingPlanner$Group" "PostingPlanner$Group" "fix" "(I)V", Cond.selects RX2 ⟨"PostingPlanner$Group", "fix", "(I)V"⟩ yX0_fix, Cond.instanceMethod yX0_fix, Cond.code yX0_fix cX0_fix 2 none, Cond.selects RX3 ⟨"PostingPlanner$Group", "fix", "(I)V"⟩ yX0_fix, Cond.methodLink RX3 50 yX3_keepLiterals, Cond.instanceMethod yX3_keepLiterals, Cond.selects RX3 yX3_keepLiterals yX3_keepLiterals, Cond.code yX3_keepLiterals cX3_keepLiterals 7 none, Cond.fieldLink RX3 72 "PostingPlanner$ToldClause" "codes" "[I", Cond.fieldLink RX3 17 "PostingPlanner$PlannedClause" "literals" "[LPostingPlanner$PlannedLiteral;", Cond.methodLink RX3 68 ⟨"PostingPlanner$PlannedClause", "isFixed", "()Z"⟩, Cond.sameMethod "PostingPlanner$PlannedClause" "PostingPlanner$Group" "isFixed" "()Z", Cond.selects RX3 ⟨"PostingPlanner$PlannedClause", "isFixed", "()Z"⟩ yX0_isFixed, Cond.static yX10_contraryOf, Cond.code yX10_contraryOf cX10_contraryOf 1 (some .int), Cond.methodLink RX3 80 ⟨"PostingPlanner$PlannedClause", "hasRank", "(I)Z"⟩, Cond.sameMethod "PostingPlanner$PlannedClause" "PostingPlanner$Group" "hasRank" "(I)Z"]
def wsX10_clauseAt_r5 : List Cond := [Cond.selects RX3 ⟨"PostingPlanner$PlannedClause", "hasRank", "(I)Z"⟩ yX0_hasRank, Cond.instanceMethod yX0_hasRank, Cond.code yX0_hasRank cX0_hasRank 4 (some .boolean), Cond.fieldLink RX0 36 "PostingPlanner$Part" "rank" "I", Cond.methodLink RX0 32 ⟨"PostingPlanner$Group", "partAt", "(I)LPostingPlanner$Part;"⟩, Cond.sameMethod "PostingPlanner$Group" "PostingPlanner$Group" "partAt" "(I)LPostingPlanner$Part;", Cond.selects RX2 ⟨"PostingPlanner$Group", "partAt", "(I)LPostingPlanner$Part;"⟩ yX0_partAt, Cond.instanceMethod yX0_partAt, Cond.code yX0_partAt cX0_partAt 2 (some (.object "PostingPlanner$Part")), Cond.fieldLink RX0 9 "PostingPlanner$Group" "parts" "[LPostingPlanner$Part;", Cond.selects RX3 ⟨"PostingPlanner$Group", "partAt", "(I)LPostingPlanner$Part;"⟩ yX0_partAt, Cond.methodLink RX3 84 yX7_truthsOf, Cond.instanceMethod yX7_truthsOf, Cond.selects RX7 yX7_truthsOf yX7_truthsOf, Cond.code yX7_truthsOf cX7_truthsOf 5 (some .long), Cond.static yX10_isLiteralTrue, Cond.code yX10_isLiteralTrue cX10_isLiteralTrue 2 (some .boolean), Cond.methodLink RX3 90 yX4_make, Cond.instanceMethod yX4_make, Cond.selects RX4 yX4_make yX4_make, Cond.initialized RX4, Cond.code yX4_make cX4_make 6 none, Cond.fieldLink RX4 15 "PostingPlanner$PlannedLiteral" "there" "J", Cond.fieldLink RX4 19 "PostingPlanner$PlannedLiteral" "truths" "J"]
def wsX10_clauseAt_r6 : List Cond := [Cond.fieldLink RX4 22 "PostingPlanner$PlannedLiteral" "rank" "I", Cond.sameField "PostingPlanner$PlannedLiteral" "PostingPlanner$Part" "rank" "I", Cond.fieldLink RX4 32 "PostingPlanner$PlannedLiteral" "estimate" "I", Cond.sameField "PostingPlanner$PlannedLiteral" "PostingPlanner$Part" "estimate" "I", Cond.fieldLink RX4 35 "PostingPlanner$PlannedLiteral" "place" "I", Cond.sameField "PostingPlanner$PlannedLiteral" "PostingPlanner$Part" "place" "I", Cond.methodLink RX4 26 yJ13_bitCount_95d88, Cond.static yJ13_bitCount_95d88, Cond.initialized RJ13, Cond.code yJ13_bitCount_95d88 cJ13_bitCount_95d88 2 (some .int), Cond.constantLong RJ13 314 (6148914691236517205), Cond.constantLong RJ13 316 (3689348814741910323), Cond.constantLong RJ13 318 (1085102592571150095), Cond.methodLink RX3 94 ⟨"PostingPlanner$PlannedClause", "keep", "(LPostingPlanner$Part;)V"⟩, Cond.sameMethod "PostingPlanner$PlannedClause" "PostingPlanner$Group" "keep" "(LPostingPlanner$Part;)V", Cond.selects RX3 ⟨"PostingPlanner$PlannedClause", "keep", "(LPostingPlanner$Part;)V"⟩ yX0_keep, Cond.instanceMethod yX0_keep, Cond.code yX0_keep cX0_keep 2 none, Cond.methodLink RX3 54 yX3_settleContraries, Cond.instanceMethod yX3_settleContraries, Cond.selects RX3 yX3_settleContraries yX3_settleContraries, Cond.code yX3_settleContraries cX3_settleContraries 3 none, Cond.fieldLink RX3 98 "PostingPlanner$PlannedClause" "size" "I", Cond.sameField "PostingPlanner$PlannedClause" "PostingPlanner$Group" "size" "I"]
def wsX10_clauseAt_r7 : List Cond := [Cond.fieldLink RX3 103 "PostingPlanner$Part" "rank" "I", Cond.methodLink RX3 99 ⟨"PostingPlanner$PlannedClause", "partAt", "(I)LPostingPlanner$Part;"⟩, Cond.sameMethod "PostingPlanner$PlannedClause" "PostingPlanner$Group" "partAt" "(I)LPostingPlanner$Part;", Cond.selects RX3 ⟨"PostingPlanner$PlannedClause", "partAt", "(I)LPostingPlanner$Part;"⟩ yX0_partAt, Cond.methodLink RX3 106 ⟨"PostingPlanner$PlannedClause", "fix", "(I)V"⟩, Cond.sameMethod "PostingPlanner$PlannedClause" "PostingPlanner$Group" "fix" "(I)V", Cond.selects RX3 ⟨"PostingPlanner$PlannedClause", "fix", "(I)V"⟩ yX0_fix, Cond.methodLink RX3 57 ⟨"PostingPlanner$PlannedClause", "settleEmpty", "()V"⟩, Cond.sameMethod "PostingPlanner$PlannedClause" "PostingPlanner$Group" "settleEmpty" "()V", Cond.selects RX3 ⟨"PostingPlanner$PlannedClause", "settleEmpty", "()V"⟩ yX0_settleEmpty, Cond.instanceMethod yX0_settleEmpty, Cond.code yX0_settleEmpty cX0_settleEmpty 1 none, Cond.methodLink RX3 60 ⟨"PostingPlanner$PlannedClause", "appraise", "()V"⟩, Cond.sameMethod "PostingPlanner$PlannedClause" "PostingPlanner$Group" "appraise" "()V", Cond.selects RX3 ⟨"PostingPlanner$PlannedClause", "appraise", "()V"⟩ yX0_appraise, Cond.instanceMethod yX0_appraise, Cond.code yX0_appraise cX0_appraise 2 none, Cond.fieldLink RX0 53 "PostingPlanner$Group" "estimate" "I", Cond.sameField "PostingPlanner$Group" "PostingPlanner$Part" "estimate" "I", Cond.methodLink RX0 60 Lib.Math.min.name, Cond.static Lib.Math.min.name, Cond.initialized "java/lang/Math", Cond.code Lib.Math.min.name Lib.Math.min.code 2 (some .int), Cond.methodLink RX0 43 yJ13_bitCount_95d88]
def wsX10_clauseAt_r8 : List Cond := [Cond.methodLink RX0 49 ⟨"PostingPlanner$Group", "leastEstimate", "(I)I"⟩, Cond.sameMethod "PostingPlanner$Group" "PostingPlanner$Group" "leastEstimate" "(I)I", Cond.selects RX2 ⟨"PostingPlanner$Group", "leastEstimate", "(I)I"⟩ yX0_leastEstimate, Cond.instanceMethod yX0_leastEstimate, Cond.code yX0_leastEstimate cX0_leastEstimate 5 (some .int), Cond.fieldLink RX0 66 "PostingPlanner$Part" "estimate" "I", Cond.selects RX3 ⟨"PostingPlanner$Group", "leastEstimate", "(I)I"⟩ yX0_leastEstimate, Cond.methodLink RX0 56 ⟨"PostingPlanner$Group", "sumOfEstimates", "()I"⟩, Cond.sameMethod "PostingPlanner$Group" "PostingPlanner$Group" "sumOfEstimates" "()I", Cond.selects RX2 ⟨"PostingPlanner$Group", "sumOfEstimates", "()I"⟩ yX0_sumOfEstimates, Cond.instanceMethod yX0_sumOfEstimates, Cond.code yX0_sumOfEstimates cX0_sumOfEstimates 4 (some .int), Cond.selects RX3 ⟨"PostingPlanner$Group", "sumOfEstimates", "()I"⟩ yX0_sumOfEstimates, Cond.methodLink RX3 63 ⟨"PostingPlanner$PlannedClause", "order", "()V"⟩, Cond.sameMethod "PostingPlanner$PlannedClause" "PostingPlanner$Group" "order" "()V", Cond.selects RX3 ⟨"PostingPlanner$PlannedClause", "order", "()V"⟩ yX0_order, Cond.instanceMethod yX0_order, Cond.code yX0_order cX0_order 4 none, Cond.methodLink RX0 67 ⟨"PostingPlanner$Group", "isBefore", "(LPostingPlanner$Part;LPostingPlanner$Part;)Z"⟩, Cond.sameMethod "PostingPlanner$Group" "PostingPlanner$Group" "isBefore" "(LPostingPlanner$Part;LPostingPlanner$Part;)Z", Cond.selects RX2 ⟨"PostingPlanner$Group", "isBefore", "(LPostingPlanner$Part;LPostingPlanner$Part;)Z"⟩ yX0_isBefore, Cond.instanceMethod yX0_isBefore, Cond.code yX0_isBefore cX0_isBefore 3 (some .boolean), Cond.selects RX3 ⟨"PostingPlanner$Group", "isBefore", "(LPostingPlanner$Part;LPostingPlanner$Part;)Z"⟩ yX0_isBefore]
def wsX10_clauseAt_r9 : List Cond := [Cond.methodLink RX2 51 yX2_takeIn, Cond.instanceMethod yX2_takeIn, Cond.selects RX2 yX2_takeIn yX2_takeIn, Cond.code yX2_takeIn cX2_takeIn 2 none, Cond.fieldLink RX2 76 "PostingPlanner$PlannedClause" "kind" "I", Cond.fieldLink RX2 77 "PostingPlanner$Plan" "kind" "I", Cond.sameField "PostingPlanner$Plan" "PostingPlanner$Group" "kind" "I", Cond.fieldLink RX2 78 "PostingPlanner$Plan" "need" "I", Cond.sameField "PostingPlanner$Plan" "PostingPlanner$Group" "need" "I", Cond.methodLink RX2 71 ⟨"PostingPlanner$PlannedClause", "isFixed", "()Z"⟩, Cond.methodLink RX2 72 ⟨"PostingPlanner$Plan", "keep", "(LPostingPlanner$Part;)V"⟩, Cond.sameMethod "PostingPlanner$Plan" "PostingPlanner$Group" "keep" "(LPostingPlanner$Part;)V", Cond.selects RX2 ⟨"PostingPlanner$Plan", "keep", "(LPostingPlanner$Part;)V"⟩ yX0_keep, Cond.methodLink RX2 79 ⟨"PostingPlanner$Plan", "fix", "(I)V"⟩, Cond.sameMethod "PostingPlanner$Plan" "PostingPlanner$Group" "fix" "(I)V", Cond.selects RX2 ⟨"PostingPlanner$Plan", "fix", "(I)V"⟩ yX0_fix, Cond.methodLink RX2 58 ⟨"PostingPlanner$Plan", "settleSome", "(I)V"⟩, Cond.sameMethod "PostingPlanner$Plan" "PostingPlanner$Group" "settleSome" "(I)V", Cond.selects RX2 ⟨"PostingPlanner$Plan", "settleSome", "(I)V"⟩ yX0_settleSome, Cond.methodLink RX2 62 ⟨"PostingPlanner$Plan", "settleEmpty", "()V"⟩, Cond.sameMethod "PostingPlanner$Plan" "PostingPlanner$Group" "settleEmpty" "()V", Cond.selects RX2 ⟨"PostingPlanner$Plan", "settleEmpty", "()V"⟩ yX0_settleEmpty, Cond.methodLink RX2 65 ⟨"PostingPlanner$Plan", "appraise", "()V"⟩, Cond.sameMethod "PostingPlanner$Plan" "PostingPlanner$Group" "appraise" "()V"]
def wsX10_clauseAt_r10 : List Cond := [Cond.selects RX2 ⟨"PostingPlanner$Plan", "appraise", "()V"⟩ yX0_appraise, Cond.methodLink RX2 68 ⟨"PostingPlanner$Plan", "order", "()V"⟩, Cond.sameMethod "PostingPlanner$Plan" "PostingPlanner$Group" "order" "()V", Cond.selects RX2 ⟨"PostingPlanner$Plan", "order", "()V"⟩ yX0_order, Cond.methodLink RX10 189 yX2_plannedAt, Cond.instanceMethod yX2_plannedAt, Cond.selects RX2 yX2_plannedAt yX2_plannedAt, Cond.code yX2_plannedAt cX2_plannedAt 3 (some (.object "PostingPlanner$PlannedClause")), Cond.fieldLink RX2 86 "PostingPlanner$Part" "rank" "I", Cond.methodLink RX2 82 ⟨"PostingPlanner$Plan", "partAt", "(I)LPostingPlanner$Part;"⟩, Cond.sameMethod "PostingPlanner$Plan" "PostingPlanner$Group" "partAt" "(I)LPostingPlanner$Part;", Cond.selects RX2 ⟨"PostingPlanner$Plan", "partAt", "(I)LPostingPlanner$Part;"⟩ yX0_partAt]
def wsX10_clauseAt : List Cond := .code yX10_clauseAt cX10_clauseAt 2 (some .int) :: ((wsX10_clauseAt_r1 ++ (wsX10_clauseAt_r2 ++ (wsX10_clauseAt_r3 ++ (wsX10_clauseAt_r4 ++ (wsX10_clauseAt_r5 ++ (wsX10_clauseAt_r6 ++ (wsX10_clauseAt_r7 ++ (wsX10_clauseAt_r8 ++ (wsX10_clauseAt_r9 ++ wsX10_clauseAt_r10))))))))) ++ wsX20 ++ wsX30 ++ wsX40 ++ wsX100 ++ wsX50 ++ wsX70 ++ wsX90 ++ (vx_atS RX10 50 "java/lang/IllegalArgumentException" ["java/lang/RuntimeException", "java/lang/Exception"]).filter goodWord)
def wsX10_kindAt_r1 : List Cond := [Cond.fieldLink RX10 141 "PostingPlanner$PlannedClause" "kind" "I", Cond.sameField "PostingPlanner$PlannedClause" "PostingPlanner$Group" "kind" "I", Cond.methodLink RX10 132 yX10_plannedClause, Cond.instanceMethod yX10_plannedClause, Cond.selects RX10 yX10_plannedClause yX10_plannedClause, Cond.initialized RX10, Cond.code yX10_plannedClause cX10_plannedClause 3 (some (.object "PostingPlanner$PlannedClause")), Cond.classLink RX10 46 "java/lang/IllegalArgumentException", Cond.initialized "java/lang/IllegalArgumentException", Cond.fieldLink RX10 31 "PostingPlanner" "plan" "LPostingPlanner$Plan;", Cond.fieldLink RX10 19 "PostingPlanner" "question" "LPostingPlanner$Question;", Cond.fieldLink RX10 10 "PostingPlanner" "shelf" "LPostingPlanner$Shelf;", Cond.methodLink RX10 118 yX2_make, Cond.instanceMethod yX2_make, Cond.selects RX2 yX2_make yX2_make, Cond.initialized RX2, Cond.code yX2_make cX2_make 7 none, Cond.fieldLink RX2 26 "PostingPlanner$Question" "kind" "I", Cond.fieldLink RX2 32 "PostingPlanner$Question" "need" "I", Cond.fieldLink RX2 11 "PostingPlanner$Plan" "clauses" "[LPostingPlanner$PlannedClause;", Cond.fieldLink RX2 55 "PostingPlanner$Plan" "size" "I", Cond.sameField "PostingPlanner$Plan" "PostingPlanner$Group" "size" "I", Cond.methodLink RX2 20 yX7_allThere, Cond.instanceMethod yX7_allThere]
def wsX10_kindAt_r2 : List Cond := [Cond.selects RX7 yX7_allThere yX7_allThere, Cond.initialized RX7, Cond.code yX7_allThere cX7_allThere 4 (some .long), Cond.fieldLink RX7 9 "PostingPlanner$Shelf" "words" "[I", Cond.methodLink RX2 35 ⟨"PostingPlanner$Plan", "restart", "(IIJ)V"⟩, Cond.sameMethod "PostingPlanner$Plan" "PostingPlanner$Group" "restart" "(IIJ)V", Cond.selects RX2 ⟨"PostingPlanner$Plan", "restart", "(IIJ)V"⟩ yX0_restart, Cond.instanceMethod yX0_restart, Cond.initialized RX0, Cond.code yX0_restart cX0_restart 5 none, Cond.fieldLink RX0 15 "PostingPlanner$Group" "kind" "I", Cond.fieldLink RX0 19 "PostingPlanner$Group" "need" "I", Cond.fieldLink RX0 22 "PostingPlanner$Group" "size" "I", Cond.fieldLink RX0 25 "PostingPlanner$Group" "there" "J", Cond.fieldLink RX0 29 "PostingPlanner$Group" "place" "I", Cond.sameField "PostingPlanner$Group" "PostingPlanner$Part" "place" "I", Cond.methodLink RX2 39 ⟨"PostingPlanner$Plan", "isFixed", "()Z"⟩, Cond.sameMethod "PostingPlanner$Plan" "PostingPlanner$Group" "isFixed" "()Z", Cond.selects RX2 ⟨"PostingPlanner$Plan", "isFixed", "()Z"⟩ yX0_isFixed, Cond.instanceMethod yX0_isFixed, Cond.code yX0_isFixed cX0_isFixed 1 (some .boolean), Cond.methodLink RX2 43 yX5_toldAt, Cond.instanceMethod yX5_toldAt, Cond.selects RX5 yX5_toldAt yX5_toldAt]
def wsX10_kindAt_r3 : List Cond := [Cond.initialized RX5, Cond.code yX5_toldAt cX5_toldAt 2 (some (.object "PostingPlanner$ToldClause")), Cond.fieldLink RX5 22 "PostingPlanner$Question" "size" "I", Cond.fieldLink RX5 11 "PostingPlanner$Question" "clauses" "[LPostingPlanner$ToldClause;", Cond.methodLink RX2 47 yX3_make, Cond.instanceMethod yX3_make, Cond.selects RX3 yX3_make yX3_make, Cond.initialized RX3, Cond.code yX3_make cX3_make 5 none, Cond.fieldLink RX3 24 "PostingPlanner$ToldClause" "kind" "I", Cond.fieldLink RX3 29 "PostingPlanner$ToldClause" "need" "I", Cond.fieldLink RX3 36 "PostingPlanner$ToldClause" "isNegated" "Z", Cond.fieldLink RX3 40 "PostingPlanner$ToldClause" "size" "I", Cond.methodLink RX3 32 ⟨"PostingPlanner$PlannedClause", "restart", "(IIJ)V"⟩, Cond.sameMethod "PostingPlanner$PlannedClause" "PostingPlanner$Group" "restart" "(IIJ)V", Cond.selects RX3 ⟨"PostingPlanner$PlannedClause", "restart", "(IIJ)V"⟩ yX0_restart, Cond.methodLink RX3 43 yX3_turn, Cond.instanceMethod yX3_turn, Cond.selects RX3 yX3_turn yX3_turn, Cond.code yX3_turn cX3_turn 2 none, Cond.fieldLink RX3 66 "PostingPlanner$PlannedClause" "kind" "I", Cond.fieldLink RX3 67 "PostingPlanner$PlannedClause" "need" "I", Cond.sameField "PostingPlanner$PlannedClause" "PostingPlanner$Group" "need" "I", Cond.methodLink RX3 47 ⟨"PostingPlanner$PlannedClause", "settleSome", "(I)V"⟩]
def wsX10_kindAt_r4 : List Cond := [Cond.sameMethod "PostingPlanner$PlannedClause" "PostingPlanner$Group" "settleSome" "(I)V", Cond.selects RX3 ⟨"PostingPlanner$PlannedClause", "settleSome", "(I)V"⟩ yX0_settleSome, Cond.instanceMethod yX0_settleSome, Cond.code yX0_settleSome cX0_settleSome 2 none, Cond.methodLink RX0 39 ⟨"PostingPlanner$Group", "fix", "(I)V"⟩, Cond.sameMethod "PostingPlanner$Group" "PostingPlanner$Group" "fix" "(I)V", Cond.selects RX2 ⟨"PostingPlanner$Group", "fix", "(I)V"⟩ yX0_fix, Cond.instanceMethod yX0_fix, Cond.code yX0_fix cX0_fix 2 none, Cond.selects RX3 ⟨"PostingPlanner$Group", "fix", "(I)V"⟩ yX0_fix, Cond.methodLink RX3 50 yX3_keepLiterals, Cond.instanceMethod yX3_keepLiterals, Cond.selects RX3 yX3_keepLiterals yX3_keepLiterals, Cond.code yX3_keepLiterals cX3_keepLiterals 7 none, Cond.fieldLink RX3 72 "PostingPlanner$ToldClause" "codes" "[I", Cond.fieldLink RX3 17 "PostingPlanner$PlannedClause" "literals" "[LPostingPlanner$PlannedLiteral;", Cond.methodLink RX3 68 ⟨"PostingPlanner$PlannedClause", "isFixed", "()Z"⟩, Cond.sameMethod "PostingPlanner$PlannedClause" "PostingPlanner$Group" "isFixed" "()Z", Cond.selects RX3 ⟨"PostingPlanner$PlannedClause", "isFixed", "()Z"⟩ yX0_isFixed, Cond.static yX10_contraryOf, Cond.code yX10_contraryOf cX10_contraryOf 1 (some .int), Cond.methodLink RX3 80 ⟨"PostingPlanner$PlannedClause", "hasRank", "(I)Z"⟩, Cond.sameMethod "PostingPlanner$PlannedClause" "PostingPlanner$Group" "hasRank" "(I)Z", Cond.selects RX3 ⟨"PostingPlanner$PlannedClause", "hasRank", "(I)Z"⟩ yX0_hasRank]
def wsX10_kindAt_r5 : List Cond := [Cond.instanceMethod yX0_hasRank, Cond.code yX0_hasRank cX0_hasRank 4 (some .boolean), Cond.fieldLink RX0 36 "PostingPlanner$Part" "rank" "I", Cond.methodLink RX0 32 ⟨"PostingPlanner$Group", "partAt", "(I)LPostingPlanner$Part;"⟩, Cond.sameMethod "PostingPlanner$Group" "PostingPlanner$Group" "partAt" "(I)LPostingPlanner$Part;", Cond.selects RX2 ⟨"PostingPlanner$Group", "partAt", "(I)LPostingPlanner$Part;"⟩ yX0_partAt, Cond.instanceMethod yX0_partAt, Cond.code yX0_partAt cX0_partAt 2 (some (.object "PostingPlanner$Part")), Cond.fieldLink RX0 9 "PostingPlanner$Group" "parts" "[LPostingPlanner$Part;", Cond.selects RX3 ⟨"PostingPlanner$Group", "partAt", "(I)LPostingPlanner$Part;"⟩ yX0_partAt, Cond.methodLink RX3 84 yX7_truthsOf, Cond.instanceMethod yX7_truthsOf, Cond.selects RX7 yX7_truthsOf yX7_truthsOf, Cond.code yX7_truthsOf cX7_truthsOf 5 (some .long), Cond.static yX10_isLiteralTrue, Cond.code yX10_isLiteralTrue cX10_isLiteralTrue 2 (some .boolean), Cond.methodLink RX3 90 yX4_make, Cond.instanceMethod yX4_make, Cond.selects RX4 yX4_make yX4_make, Cond.initialized RX4, Cond.code yX4_make cX4_make 6 none, Cond.fieldLink RX4 15 "PostingPlanner$PlannedLiteral" "there" "J", Cond.fieldLink RX4 19 "PostingPlanner$PlannedLiteral" "truths" "J", Cond.fieldLink RX4 22 "PostingPlanner$PlannedLiteral" "rank" "I"]
def wsX10_kindAt_r6 : List Cond := [Cond.sameField "PostingPlanner$PlannedLiteral" "PostingPlanner$Part" "rank" "I", Cond.fieldLink RX4 32 "PostingPlanner$PlannedLiteral" "estimate" "I", Cond.sameField "PostingPlanner$PlannedLiteral" "PostingPlanner$Part" "estimate" "I", Cond.fieldLink RX4 35 "PostingPlanner$PlannedLiteral" "place" "I", Cond.sameField "PostingPlanner$PlannedLiteral" "PostingPlanner$Part" "place" "I", Cond.methodLink RX4 26 yJ13_bitCount_95d88, Cond.static yJ13_bitCount_95d88, Cond.initialized RJ13, Cond.code yJ13_bitCount_95d88 cJ13_bitCount_95d88 2 (some .int), Cond.constantLong RJ13 314 (6148914691236517205), Cond.constantLong RJ13 316 (3689348814741910323), Cond.constantLong RJ13 318 (1085102592571150095), Cond.methodLink RX3 94 ⟨"PostingPlanner$PlannedClause", "keep", "(LPostingPlanner$Part;)V"⟩, Cond.sameMethod "PostingPlanner$PlannedClause" "PostingPlanner$Group" "keep" "(LPostingPlanner$Part;)V", Cond.selects RX3 ⟨"PostingPlanner$PlannedClause", "keep", "(LPostingPlanner$Part;)V"⟩ yX0_keep, Cond.instanceMethod yX0_keep, Cond.code yX0_keep cX0_keep 2 none, Cond.methodLink RX3 54 yX3_settleContraries, Cond.instanceMethod yX3_settleContraries, Cond.selects RX3 yX3_settleContraries yX3_settleContraries, Cond.code yX3_settleContraries cX3_settleContraries 3 none, Cond.fieldLink RX3 98 "PostingPlanner$PlannedClause" "size" "I", Cond.sameField "PostingPlanner$PlannedClause" "PostingPlanner$Group" "size" "I", Cond.fieldLink RX3 103 "PostingPlanner$Part" "rank" "I"]
def wsX10_kindAt_r7 : List Cond := [Cond.methodLink RX3 99 ⟨"PostingPlanner$PlannedClause", "partAt", "(I)LPostingPlanner$Part;"⟩, Cond.sameMethod "PostingPlanner$PlannedClause" "PostingPlanner$Group" "partAt" "(I)LPostingPlanner$Part;", Cond.selects RX3 ⟨"PostingPlanner$PlannedClause", "partAt", "(I)LPostingPlanner$Part;"⟩ yX0_partAt, Cond.methodLink RX3 106 ⟨"PostingPlanner$PlannedClause", "fix", "(I)V"⟩, Cond.sameMethod "PostingPlanner$PlannedClause" "PostingPlanner$Group" "fix" "(I)V", Cond.selects RX3 ⟨"PostingPlanner$PlannedClause", "fix", "(I)V"⟩ yX0_fix, Cond.methodLink RX3 57 ⟨"PostingPlanner$PlannedClause", "settleEmpty", "()V"⟩, Cond.sameMethod "PostingPlanner$PlannedClause" "PostingPlanner$Group" "settleEmpty" "()V", Cond.selects RX3 ⟨"PostingPlanner$PlannedClause", "settleEmpty", "()V"⟩ yX0_settleEmpty, Cond.instanceMethod yX0_settleEmpty, Cond.code yX0_settleEmpty cX0_settleEmpty 1 none, Cond.methodLink RX3 60 ⟨"PostingPlanner$PlannedClause", "appraise", "()V"⟩, Cond.sameMethod "PostingPlanner$PlannedClause" "PostingPlanner$Group" "appraise" "()V", Cond.selects RX3 ⟨"PostingPlanner$PlannedClause", "appraise", "()V"⟩ yX0_appraise, Cond.instanceMethod yX0_appraise, Cond.code yX0_appraise cX0_appraise 2 none, Cond.fieldLink RX0 53 "PostingPlanner$Group" "estimate" "I", Cond.sameField "PostingPlanner$Group" "PostingPlanner$Part" "estimate" "I", Cond.methodLink RX0 60 Lib.Math.min.name, Cond.static Lib.Math.min.name, Cond.initialized "java/lang/Math", Cond.code Lib.Math.min.name Lib.Math.min.code 2 (some .int), Cond.methodLink RX0 43 yJ13_bitCount_95d88, Cond.methodLink RX0 49 ⟨"PostingPlanner$Group", "leastEstimate", "(I)I"⟩]
def wsX10_kindAt_r8 : List Cond := [Cond.sameMethod "PostingPlanner$Group" "PostingPlanner$Group" "leastEstimate" "(I)I", Cond.selects RX2 ⟨"PostingPlanner$Group", "leastEstimate", "(I)I"⟩ yX0_leastEstimate, Cond.instanceMethod yX0_leastEstimate, Cond.code yX0_leastEstimate cX0_leastEstimate 5 (some .int), Cond.fieldLink RX0 66 "PostingPlanner$Part" "estimate" "I", Cond.selects RX3 ⟨"PostingPlanner$Group", "leastEstimate", "(I)I"⟩ yX0_leastEstimate, Cond.methodLink RX0 56 ⟨"PostingPlanner$Group", "sumOfEstimates", "()I"⟩, Cond.sameMethod "PostingPlanner$Group" "PostingPlanner$Group" "sumOfEstimates" "()I", Cond.selects RX2 ⟨"PostingPlanner$Group", "sumOfEstimates", "()I"⟩ yX0_sumOfEstimates, Cond.instanceMethod yX0_sumOfEstimates, Cond.code yX0_sumOfEstimates cX0_sumOfEstimates 4 (some .int), Cond.selects RX3 ⟨"PostingPlanner$Group", "sumOfEstimates", "()I"⟩ yX0_sumOfEstimates, Cond.methodLink RX3 63 ⟨"PostingPlanner$PlannedClause", "order", "()V"⟩, Cond.sameMethod "PostingPlanner$PlannedClause" "PostingPlanner$Group" "order" "()V", Cond.selects RX3 ⟨"PostingPlanner$PlannedClause", "order", "()V"⟩ yX0_order, Cond.instanceMethod yX0_order, Cond.code yX0_order cX0_order 4 none, Cond.methodLink RX0 67 ⟨"PostingPlanner$Group", "isBefore", "(LPostingPlanner$Part;LPostingPlanner$Part;)Z"⟩, Cond.sameMethod "PostingPlanner$Group" "PostingPlanner$Group" "isBefore" "(LPostingPlanner$Part;LPostingPlanner$Part;)Z", Cond.selects RX2 ⟨"PostingPlanner$Group", "isBefore", "(LPostingPlanner$Part;LPostingPlanner$Part;)Z"⟩ yX0_isBefore, Cond.instanceMethod yX0_isBefore, Cond.code yX0_isBefore cX0_isBefore 3 (some .boolean), Cond.selects RX3 ⟨"PostingPlanner$Group", "isBefore", "(LPostingPlanner$Part;LPostingPlanner$Part;)Z"⟩ yX0_isBefore, Cond.methodLink RX2 51 yX2_takeIn]
def wsX10_kindAt_r9 : List Cond := [Cond.instanceMethod yX2_takeIn, Cond.selects RX2 yX2_takeIn yX2_takeIn, Cond.code yX2_takeIn cX2_takeIn 2 none, Cond.fieldLink RX2 76 "PostingPlanner$PlannedClause" "kind" "I", Cond.fieldLink RX2 77 "PostingPlanner$Plan" "kind" "I", Cond.sameField "PostingPlanner$Plan" "PostingPlanner$Group" "kind" "I", Cond.fieldLink RX2 78 "PostingPlanner$Plan" "need" "I", Cond.sameField "PostingPlanner$Plan" "PostingPlanner$Group" "need" "I", Cond.methodLink RX2 71 ⟨"PostingPlanner$PlannedClause", "isFixed", "()Z"⟩, Cond.methodLink RX2 72 ⟨"PostingPlanner$Plan", "keep", "(LPostingPlanner$Part;)V"⟩, Cond.sameMethod "PostingPlanner$Plan" "PostingPlanner$Group" "keep" "(LPostingPlanner$Part;)V", Cond.selects RX2 ⟨"PostingPlanner$Plan", "keep", "(LPostingPlanner$Part;)V"⟩ yX0_keep, Cond.methodLink RX2 79 ⟨"PostingPlanner$Plan", "fix", "(I)V"⟩, Cond.sameMethod "PostingPlanner$Plan" "PostingPlanner$Group" "fix" "(I)V", Cond.selects RX2 ⟨"PostingPlanner$Plan", "fix", "(I)V"⟩ yX0_fix, Cond.methodLink RX2 58 ⟨"PostingPlanner$Plan", "settleSome", "(I)V"⟩, Cond.sameMethod "PostingPlanner$Plan" "PostingPlanner$Group" "settleSome" "(I)V", Cond.selects RX2 ⟨"PostingPlanner$Plan", "settleSome", "(I)V"⟩ yX0_settleSome, Cond.methodLink RX2 62 ⟨"PostingPlanner$Plan", "settleEmpty", "()V"⟩, Cond.sameMethod "PostingPlanner$Plan" "PostingPlanner$Group" "settleEmpty" "()V", Cond.selects RX2 ⟨"PostingPlanner$Plan", "settleEmpty", "()V"⟩ yX0_settleEmpty, Cond.methodLink RX2 65 ⟨"PostingPlanner$Plan", "appraise", "()V"⟩, Cond.sameMethod "PostingPlanner$Plan" "PostingPlanner$Group" "appraise" "()V", Cond.selects RX2 ⟨"PostingPlanner$Plan", "appraise", "()V"⟩ yX0_appraise]
def wsX10_kindAt_r10 : List Cond := [Cond.methodLink RX2 68 ⟨"PostingPlanner$Plan", "order", "()V"⟩, Cond.sameMethod "PostingPlanner$Plan" "PostingPlanner$Group" "order" "()V", Cond.selects RX2 ⟨"PostingPlanner$Plan", "order", "()V"⟩ yX0_order, Cond.methodLink RX10 189 yX2_plannedAt, Cond.instanceMethod yX2_plannedAt, Cond.selects RX2 yX2_plannedAt yX2_plannedAt, Cond.code yX2_plannedAt cX2_plannedAt 3 (some (.object "PostingPlanner$PlannedClause")), Cond.fieldLink RX2 86 "PostingPlanner$Part" "rank" "I", Cond.methodLink RX2 82 ⟨"PostingPlanner$Plan", "partAt", "(I)LPostingPlanner$Part;"⟩, Cond.sameMethod "PostingPlanner$Plan" "PostingPlanner$Group" "partAt" "(I)LPostingPlanner$Part;", Cond.selects RX2 ⟨"PostingPlanner$Plan", "partAt", "(I)LPostingPlanner$Part;"⟩ yX0_partAt]
def wsX10_kindAt : List Cond := .code yX10_kindAt cX10_kindAt 2 (some .int) :: ((wsX10_kindAt_r1 ++ (wsX10_kindAt_r2 ++ (wsX10_kindAt_r3 ++ (wsX10_kindAt_r4 ++ (wsX10_kindAt_r5 ++ (wsX10_kindAt_r6 ++ (wsX10_kindAt_r7 ++ (wsX10_kindAt_r8 ++ (wsX10_kindAt_r9 ++ wsX10_kindAt_r10))))))))) ++ wsX20 ++ wsX30 ++ wsX100 ++ wsX50 ++ wsX70 ++ wsX40 ++ wsX90 ++ (vx_atS RX10 50 "java/lang/IllegalArgumentException" ["java/lang/RuntimeException", "java/lang/Exception"]).filter goodWord)
def wsX10_estimateAt_r1 : List Cond := [Cond.fieldLink RX10 142 "PostingPlanner$PlannedClause" "estimate" "I", Cond.sameField "PostingPlanner$PlannedClause" "PostingPlanner$Part" "estimate" "I", Cond.methodLink RX10 132 yX10_plannedClause, Cond.instanceMethod yX10_plannedClause, Cond.selects RX10 yX10_plannedClause yX10_plannedClause, Cond.initialized RX10, Cond.code yX10_plannedClause cX10_plannedClause 3 (some (.object "PostingPlanner$PlannedClause")), Cond.classLink RX10 46 "java/lang/IllegalArgumentException", Cond.initialized "java/lang/IllegalArgumentException", Cond.fieldLink RX10 31 "PostingPlanner" "plan" "LPostingPlanner$Plan;", Cond.fieldLink RX10 19 "PostingPlanner" "question" "LPostingPlanner$Question;", Cond.fieldLink RX10 10 "PostingPlanner" "shelf" "LPostingPlanner$Shelf;", Cond.methodLink RX10 118 yX2_make, Cond.instanceMethod yX2_make, Cond.selects RX2 yX2_make yX2_make, Cond.initialized RX2, Cond.code yX2_make cX2_make 7 none, Cond.fieldLink RX2 26 "PostingPlanner$Question" "kind" "I", Cond.fieldLink RX2 32 "PostingPlanner$Question" "need" "I", Cond.fieldLink RX2 11 "PostingPlanner$Plan" "clauses" "[LPostingPlanner$PlannedClause;", Cond.fieldLink RX2 55 "PostingPlanner$Plan" "size" "I", Cond.sameField "PostingPlanner$Plan" "PostingPlanner$Group" "size" "I", Cond.methodLink RX2 20 yX7_allThere, Cond.instanceMethod yX7_allThere]
def wsX10_estimateAt_r2 : List Cond := [Cond.selects RX7 yX7_allThere yX7_allThere, Cond.initialized RX7, Cond.code yX7_allThere cX7_allThere 4 (some .long), Cond.fieldLink RX7 9 "PostingPlanner$Shelf" "words" "[I", Cond.methodLink RX2 35 ⟨"PostingPlanner$Plan", "restart", "(IIJ)V"⟩, Cond.sameMethod "PostingPlanner$Plan" "PostingPlanner$Group" "restart" "(IIJ)V", Cond.selects RX2 ⟨"PostingPlanner$Plan", "restart", "(IIJ)V"⟩ yX0_restart, Cond.instanceMethod yX0_restart, Cond.initialized RX0, Cond.code yX0_restart cX0_restart 5 none, Cond.fieldLink RX0 15 "PostingPlanner$Group" "kind" "I", Cond.fieldLink RX0 19 "PostingPlanner$Group" "need" "I", Cond.fieldLink RX0 22 "PostingPlanner$Group" "size" "I", Cond.fieldLink RX0 25 "PostingPlanner$Group" "there" "J", Cond.fieldLink RX0 29 "PostingPlanner$Group" "place" "I", Cond.sameField "PostingPlanner$Group" "PostingPlanner$Part" "place" "I", Cond.methodLink RX2 39 ⟨"PostingPlanner$Plan", "isFixed", "()Z"⟩, Cond.sameMethod "PostingPlanner$Plan" "PostingPlanner$Group" "isFixed" "()Z", Cond.selects RX2 ⟨"PostingPlanner$Plan", "isFixed", "()Z"⟩ yX0_isFixed, Cond.instanceMethod yX0_isFixed, Cond.code yX0_isFixed cX0_isFixed 1 (some .boolean), Cond.methodLink RX2 43 yX5_toldAt, Cond.instanceMethod yX5_toldAt, Cond.selects RX5 yX5_toldAt yX5_toldAt]
def wsX10_estimateAt_r3 : List Cond := [Cond.initialized RX5, Cond.code yX5_toldAt cX5_toldAt 2 (some (.object "PostingPlanner$ToldClause")), Cond.fieldLink RX5 22 "PostingPlanner$Question" "size" "I", Cond.fieldLink RX5 11 "PostingPlanner$Question" "clauses" "[LPostingPlanner$ToldClause;", Cond.methodLink RX2 47 yX3_make, Cond.instanceMethod yX3_make, Cond.selects RX3 yX3_make yX3_make, Cond.initialized RX3, Cond.code yX3_make cX3_make 5 none, Cond.fieldLink RX3 24 "PostingPlanner$ToldClause" "kind" "I", Cond.fieldLink RX3 29 "PostingPlanner$ToldClause" "need" "I", Cond.fieldLink RX3 36 "PostingPlanner$ToldClause" "isNegated" "Z", Cond.fieldLink RX3 40 "PostingPlanner$ToldClause" "size" "I", Cond.methodLink RX3 32 ⟨"PostingPlanner$PlannedClause", "restart", "(IIJ)V"⟩, Cond.sameMethod "PostingPlanner$PlannedClause" "PostingPlanner$Group" "restart" "(IIJ)V", Cond.selects RX3 ⟨"PostingPlanner$PlannedClause", "restart", "(IIJ)V"⟩ yX0_restart, Cond.methodLink RX3 43 yX3_turn, Cond.instanceMethod yX3_turn, Cond.selects RX3 yX3_turn yX3_turn, Cond.code yX3_turn cX3_turn 2 none, Cond.fieldLink RX3 66 "PostingPlanner$PlannedClause" "kind" "I", Cond.sameField "PostingPlanner$PlannedClause" "PostingPlanner$Group" "kind" "I", Cond.fieldLink RX3 67 "PostingPlanner$PlannedClause" "need" "I", Cond.sameField "PostingPlanner$PlannedClause" "PostingPlanner$Group" "need" "I"]
def wsX10_estimateAt_r4 : List Cond := [Cond.methodLink RX3 47 ⟨"PostingPlanner$PlannedClause", "settleSome", "(I)V"⟩, Cond.sameMethod "PostingPlanner$PlannedClause" "PostingPlanner$Group" "settleSome" "(I)V", Cond.selects RX3 ⟨"PostingPlanner$PlannedClause", "settleSome", "(I)V"⟩ yX0_settleSome, Cond.instanceMethod yX0_settleSome, Cond.code yX0_settleSome cX0_settleSome 2 none, Cond.methodLink RX0 39 ⟨"PostingPlanner$Group", "fix", "(I)V"⟩, Cond.sameMethod "PostingPlanner$Group" "PostingPlanner$Group" "fix" "(I)V", Cond.selects RX2 ⟨"PostingPlanner$Group", "fix", "(I)V"⟩ yX0_fix, Cond.instanceMethod yX0_fix, Cond.code yX0_fix cX0_fix 2 none, Cond.selects RX3 ⟨"PostingPlanner$Group", "fix", "(I)V"⟩ yX0_fix, Cond.methodLink RX3 50 yX3_keepLiterals, Cond.instanceMethod yX3_keepLiterals, Cond.selects RX3 yX3_keepLiterals yX3_keepLiterals, Cond.code yX3_keepLiterals cX3_keepLiterals 7 none, Cond.fieldLink RX3 72 "PostingPlanner$ToldClause" "codes" "[I", Cond.fieldLink RX3 17 "PostingPlanner$PlannedClause" "literals" "[LPostingPlanner$PlannedLiteral;", Cond.methodLink RX3 68 ⟨"PostingPlanner$PlannedClause", "isFixed", "()Z"⟩, Cond.sameMethod "PostingPlanner$PlannedClause" "PostingPlanner$Group" "isFixed" "()Z", Cond.selects RX3 ⟨"PostingPlanner$PlannedClause", "isFixed", "()Z"⟩ yX0_isFixed, Cond.static yX10_contraryOf, Cond.code yX10_contraryOf cX10_contraryOf 1 (some .int), Cond.methodLink RX3 80 ⟨"PostingPlanner$PlannedClause", "hasRank", "(I)Z"⟩, Cond.sameMethod "PostingPlanner$PlannedClause" "PostingPlanner$Group" "hasRank" "(I)Z"]
def wsX10_estimateAt_r5 : List Cond := [Cond.selects RX3 ⟨"PostingPlanner$PlannedClause", "hasRank", "(I)Z"⟩ yX0_hasRank, Cond.instanceMethod yX0_hasRank, Cond.code yX0_hasRank cX0_hasRank 4 (some .boolean), Cond.fieldLink RX0 36 "PostingPlanner$Part" "rank" "I", Cond.methodLink RX0 32 ⟨"PostingPlanner$Group", "partAt", "(I)LPostingPlanner$Part;"⟩, Cond.sameMethod "PostingPlanner$Group" "PostingPlanner$Group" "partAt" "(I)LPostingPlanner$Part;", Cond.selects RX2 ⟨"PostingPlanner$Group", "partAt", "(I)LPostingPlanner$Part;"⟩ yX0_partAt, Cond.instanceMethod yX0_partAt, Cond.code yX0_partAt cX0_partAt 2 (some (.object "PostingPlanner$Part")), Cond.fieldLink RX0 9 "PostingPlanner$Group" "parts" "[LPostingPlanner$Part;", Cond.selects RX3 ⟨"PostingPlanner$Group", "partAt", "(I)LPostingPlanner$Part;"⟩ yX0_partAt, Cond.methodLink RX3 84 yX7_truthsOf, Cond.instanceMethod yX7_truthsOf, Cond.selects RX7 yX7_truthsOf yX7_truthsOf, Cond.code yX7_truthsOf cX7_truthsOf 5 (some .long), Cond.static yX10_isLiteralTrue, Cond.code yX10_isLiteralTrue cX10_isLiteralTrue 2 (some .boolean), Cond.methodLink RX3 90 yX4_make, Cond.instanceMethod yX4_make, Cond.selects RX4 yX4_make yX4_make, Cond.initialized RX4, Cond.code yX4_make cX4_make 6 none, Cond.fieldLink RX4 15 "PostingPlanner$PlannedLiteral" "there" "J", Cond.fieldLink RX4 19 "PostingPlanner$PlannedLiteral" "truths" "J"]
def wsX10_estimateAt_r6 : List Cond := [Cond.fieldLink RX4 22 "PostingPlanner$PlannedLiteral" "rank" "I", Cond.sameField "PostingPlanner$PlannedLiteral" "PostingPlanner$Part" "rank" "I", Cond.fieldLink RX4 32 "PostingPlanner$PlannedLiteral" "estimate" "I", Cond.sameField "PostingPlanner$PlannedLiteral" "PostingPlanner$Part" "estimate" "I", Cond.fieldLink RX4 35 "PostingPlanner$PlannedLiteral" "place" "I", Cond.sameField "PostingPlanner$PlannedLiteral" "PostingPlanner$Part" "place" "I", Cond.methodLink RX4 26 yJ13_bitCount_95d88, Cond.static yJ13_bitCount_95d88, Cond.initialized RJ13, Cond.code yJ13_bitCount_95d88 cJ13_bitCount_95d88 2 (some .int), Cond.constantLong RJ13 314 (6148914691236517205), Cond.constantLong RJ13 316 (3689348814741910323), Cond.constantLong RJ13 318 (1085102592571150095), Cond.methodLink RX3 94 ⟨"PostingPlanner$PlannedClause", "keep", "(LPostingPlanner$Part;)V"⟩, Cond.sameMethod "PostingPlanner$PlannedClause" "PostingPlanner$Group" "keep" "(LPostingPlanner$Part;)V", Cond.selects RX3 ⟨"PostingPlanner$PlannedClause", "keep", "(LPostingPlanner$Part;)V"⟩ yX0_keep, Cond.instanceMethod yX0_keep, Cond.code yX0_keep cX0_keep 2 none, Cond.methodLink RX3 54 yX3_settleContraries, Cond.instanceMethod yX3_settleContraries, Cond.selects RX3 yX3_settleContraries yX3_settleContraries, Cond.code yX3_settleContraries cX3_settleContraries 3 none, Cond.fieldLink RX3 98 "PostingPlanner$PlannedClause" "size" "I", Cond.sameField "PostingPlanner$PlannedClause" "PostingPlanner$Group" "size" "I"]
def wsX10_estimateAt_r7 : List Cond := [Cond.fieldLink RX3 103 "PostingPlanner$Part" "rank" "I", Cond.methodLink RX3 99 ⟨"PostingPlanner$PlannedClause", "partAt", "(I)LPostingPlanner$Part;"⟩, Cond.sameMethod "PostingPlanner$PlannedClause" "PostingPlanner$Group" "partAt" "(I)LPostingPlanner$Part;", Cond.selects RX3 ⟨"PostingPlanner$PlannedClause", "partAt", "(I)LPostingPlanner$Part;"⟩ yX0_partAt, Cond.methodLink RX3 106 ⟨"PostingPlanner$PlannedClause", "fix", "(I)V"⟩, Cond.sameMethod "PostingPlanner$PlannedClause" "PostingPlanner$Group" "fix" "(I)V", Cond.selects RX3 ⟨"PostingPlanner$PlannedClause", "fix", "(I)V"⟩ yX0_fix, Cond.methodLink RX3 57 ⟨"PostingPlanner$PlannedClause", "settleEmpty", "()V"⟩, Cond.sameMethod "PostingPlanner$PlannedClause" "PostingPlanner$Group" "settleEmpty" "()V", Cond.selects RX3 ⟨"PostingPlanner$PlannedClause", "settleEmpty", "()V"⟩ yX0_settleEmpty, Cond.instanceMethod yX0_settleEmpty, Cond.code yX0_settleEmpty cX0_settleEmpty 1 none, Cond.methodLink RX3 60 ⟨"PostingPlanner$PlannedClause", "appraise", "()V"⟩, Cond.sameMethod "PostingPlanner$PlannedClause" "PostingPlanner$Group" "appraise" "()V", Cond.selects RX3 ⟨"PostingPlanner$PlannedClause", "appraise", "()V"⟩ yX0_appraise, Cond.instanceMethod yX0_appraise, Cond.code yX0_appraise cX0_appraise 2 none, Cond.fieldLink RX0 53 "PostingPlanner$Group" "estimate" "I", Cond.sameField "PostingPlanner$Group" "PostingPlanner$Part" "estimate" "I", Cond.methodLink RX0 60 Lib.Math.min.name, Cond.static Lib.Math.min.name, Cond.initialized "java/lang/Math", Cond.code Lib.Math.min.name Lib.Math.min.code 2 (some .int), Cond.methodLink RX0 43 yJ13_bitCount_95d88]
def wsX10_estimateAt_r8 : List Cond := [Cond.methodLink RX0 49 ⟨"PostingPlanner$Group", "leastEstimate", "(I)I"⟩, Cond.sameMethod "PostingPlanner$Group" "PostingPlanner$Group" "leastEstimate" "(I)I", Cond.selects RX2 ⟨"PostingPlanner$Group", "leastEstimate", "(I)I"⟩ yX0_leastEstimate, Cond.instanceMethod yX0_leastEstimate, Cond.code yX0_leastEstimate cX0_leastEstimate 5 (some .int), Cond.fieldLink RX0 66 "PostingPlanner$Part" "estimate" "I", Cond.selects RX3 ⟨"PostingPlanner$Group", "leastEstimate", "(I)I"⟩ yX0_leastEstimate, Cond.methodLink RX0 56 ⟨"PostingPlanner$Group", "sumOfEstimates", "()I"⟩, Cond.sameMethod "PostingPlanner$Group" "PostingPlanner$Group" "sumOfEstimates" "()I", Cond.selects RX2 ⟨"PostingPlanner$Group", "sumOfEstimates", "()I"⟩ yX0_sumOfEstimates, Cond.instanceMethod yX0_sumOfEstimates, Cond.code yX0_sumOfEstimates cX0_sumOfEstimates 4 (some .int), Cond.selects RX3 ⟨"PostingPlanner$Group", "sumOfEstimates", "()I"⟩ yX0_sumOfEstimates, Cond.methodLink RX3 63 ⟨"PostingPlanner$PlannedClause", "order", "()V"⟩, Cond.sameMethod "PostingPlanner$PlannedClause" "PostingPlanner$Group" "order" "()V", Cond.selects RX3 ⟨"PostingPlanner$PlannedClause", "order", "()V"⟩ yX0_order, Cond.instanceMethod yX0_order, Cond.code yX0_order cX0_order 4 none, Cond.methodLink RX0 67 ⟨"PostingPlanner$Group", "isBefore", "(LPostingPlanner$Part;LPostingPlanner$Part;)Z"⟩, Cond.sameMethod "PostingPlanner$Group" "PostingPlanner$Group" "isBefore" "(LPostingPlanner$Part;LPostingPlanner$Part;)Z", Cond.selects RX2 ⟨"PostingPlanner$Group", "isBefore", "(LPostingPlanner$Part;LPostingPlanner$Part;)Z"⟩ yX0_isBefore, Cond.instanceMethod yX0_isBefore, Cond.code yX0_isBefore cX0_isBefore 3 (some .boolean), Cond.selects RX3 ⟨"PostingPlanner$Group", "isBefore", "(LPostingPlanner$Part;LPostingPlanner$Part;)Z"⟩ yX0_isBefore]
def wsX10_estimateAt_r9 : List Cond := [Cond.methodLink RX2 51 yX2_takeIn, Cond.instanceMethod yX2_takeIn, Cond.selects RX2 yX2_takeIn yX2_takeIn, Cond.code yX2_takeIn cX2_takeIn 2 none, Cond.fieldLink RX2 76 "PostingPlanner$PlannedClause" "kind" "I", Cond.fieldLink RX2 77 "PostingPlanner$Plan" "kind" "I", Cond.sameField "PostingPlanner$Plan" "PostingPlanner$Group" "kind" "I", Cond.fieldLink RX2 78 "PostingPlanner$Plan" "need" "I", Cond.sameField "PostingPlanner$Plan" "PostingPlanner$Group" "need" "I", Cond.methodLink RX2 71 ⟨"PostingPlanner$PlannedClause", "isFixed", "()Z"⟩, Cond.methodLink RX2 72 ⟨"PostingPlanner$Plan", "keep", "(LPostingPlanner$Part;)V"⟩, Cond.sameMethod "PostingPlanner$Plan" "PostingPlanner$Group" "keep" "(LPostingPlanner$Part;)V", Cond.selects RX2 ⟨"PostingPlanner$Plan", "keep", "(LPostingPlanner$Part;)V"⟩ yX0_keep, Cond.methodLink RX2 79 ⟨"PostingPlanner$Plan", "fix", "(I)V"⟩, Cond.sameMethod "PostingPlanner$Plan" "PostingPlanner$Group" "fix" "(I)V", Cond.selects RX2 ⟨"PostingPlanner$Plan", "fix", "(I)V"⟩ yX0_fix, Cond.methodLink RX2 58 ⟨"PostingPlanner$Plan", "settleSome", "(I)V"⟩, Cond.sameMethod "PostingPlanner$Plan" "PostingPlanner$Group" "settleSome" "(I)V", Cond.selects RX2 ⟨"PostingPlanner$Plan", "settleSome", "(I)V"⟩ yX0_settleSome, Cond.methodLink RX2 62 ⟨"PostingPlanner$Plan", "settleEmpty", "()V"⟩, Cond.sameMethod "PostingPlanner$Plan" "PostingPlanner$Group" "settleEmpty" "()V", Cond.selects RX2 ⟨"PostingPlanner$Plan", "settleEmpty", "()V"⟩ yX0_settleEmpty, Cond.methodLink RX2 65 ⟨"PostingPlanner$Plan", "appraise", "()V"⟩, Cond.sameMethod "PostingPlanner$Plan" "PostingPlanner$Group" "appraise" "()V"]
def wsX10_estimateAt_r10 : List Cond := [Cond.selects RX2 ⟨"PostingPlanner$Plan", "appraise", "()V"⟩ yX0_appraise, Cond.methodLink RX2 68 ⟨"PostingPlanner$Plan", "order", "()V"⟩, Cond.sameMethod "PostingPlanner$Plan" "PostingPlanner$Group" "order" "()V", Cond.selects RX2 ⟨"PostingPlanner$Plan", "order", "()V"⟩ yX0_order, Cond.methodLink RX10 189 yX2_plannedAt, Cond.instanceMethod yX2_plannedAt, Cond.selects RX2 yX2_plannedAt yX2_plannedAt, Cond.code yX2_plannedAt cX2_plannedAt 3 (some (.object "PostingPlanner$PlannedClause")), Cond.fieldLink RX2 86 "PostingPlanner$Part" "rank" "I", Cond.methodLink RX2 82 ⟨"PostingPlanner$Plan", "partAt", "(I)LPostingPlanner$Part;"⟩, Cond.sameMethod "PostingPlanner$Plan" "PostingPlanner$Group" "partAt" "(I)LPostingPlanner$Part;", Cond.selects RX2 ⟨"PostingPlanner$Plan", "partAt", "(I)LPostingPlanner$Part;"⟩ yX0_partAt]
def wsX10_estimateAt : List Cond := .code yX10_estimateAt cX10_estimateAt 2 (some .int) :: ((wsX10_estimateAt_r1 ++ (wsX10_estimateAt_r2 ++ (wsX10_estimateAt_r3 ++ (wsX10_estimateAt_r4 ++ (wsX10_estimateAt_r5 ++ (wsX10_estimateAt_r6 ++ (wsX10_estimateAt_r7 ++ (wsX10_estimateAt_r8 ++ (wsX10_estimateAt_r9 ++ wsX10_estimateAt_r10))))))))) ++ wsX20 ++ wsX30 ++ wsX40 ++ wsX100 ++ wsX50 ++ wsX70 ++ wsX90 ++ (vx_atS RX10 50 "java/lang/IllegalArgumentException" ["java/lang/RuntimeException", "java/lang/Exception"]).filter goodWord)
def wsX10_literalAt_r1 : List Cond := [Cond.classLink RX10 46 "java/lang/IllegalArgumentException", Cond.initialized "java/lang/IllegalArgumentException", Cond.fieldLink RX10 149 "PostingPlanner$Part" "rank" "I", Cond.methodLink RX10 132 yX10_plannedClause, Cond.instanceMethod yX10_plannedClause, Cond.selects RX10 yX10_plannedClause yX10_plannedClause, Cond.initialized RX10, Cond.code yX10_plannedClause cX10_plannedClause 3 (some (.object "PostingPlanner$PlannedClause")), Cond.fieldLink RX10 31 "PostingPlanner" "plan" "LPostingPlanner$Plan;", Cond.fieldLink RX10 19 "PostingPlanner" "question" "LPostingPlanner$Question;", Cond.fieldLink RX10 10 "PostingPlanner" "shelf" "LPostingPlanner$Shelf;", Cond.methodLink RX10 118 yX2_make, Cond.instanceMethod yX2_make, Cond.selects RX2 yX2_make yX2_make, Cond.initialized RX2, Cond.code yX2_make cX2_make 7 none, Cond.fieldLink RX2 26 "PostingPlanner$Question" "kind" "I", Cond.fieldLink RX2 32 "PostingPlanner$Question" "need" "I", Cond.fieldLink RX2 11 "PostingPlanner$Plan" "clauses" "[LPostingPlanner$PlannedClause;", Cond.fieldLink RX2 55 "PostingPlanner$Plan" "size" "I", Cond.sameField "PostingPlanner$Plan" "PostingPlanner$Group" "size" "I", Cond.methodLink RX2 20 yX7_allThere, Cond.instanceMethod yX7_allThere, Cond.selects RX7 yX7_allThere yX7_allThere]
def wsX10_literalAt_r2 : List Cond := [Cond.initialized RX7, Cond.code yX7_allThere cX7_allThere 4 (some .long), Cond.fieldLink RX7 9 "PostingPlanner$Shelf" "words" "[I", Cond.methodLink RX2 35 ⟨"PostingPlanner$Plan", "restart", "(IIJ)V"⟩, Cond.sameMethod "PostingPlanner$Plan" "PostingPlanner$Group" "restart" "(IIJ)V", Cond.selects RX2 ⟨"PostingPlanner$Plan", "restart", "(IIJ)V"⟩ yX0_restart, Cond.instanceMethod yX0_restart, Cond.initialized RX0, Cond.code yX0_restart cX0_restart 5 none, Cond.fieldLink RX0 15 "PostingPlanner$Group" "kind" "I", Cond.fieldLink RX0 19 "PostingPlanner$Group" "need" "I", Cond.fieldLink RX0 22 "PostingPlanner$Group" "size" "I", Cond.fieldLink RX0 25 "PostingPlanner$Group" "there" "J", Cond.fieldLink RX0 29 "PostingPlanner$Group" "place" "I", Cond.sameField "PostingPlanner$Group" "PostingPlanner$Part" "place" "I", Cond.methodLink RX2 39 ⟨"PostingPlanner$Plan", "isFixed", "()Z"⟩, Cond.sameMethod "PostingPlanner$Plan" "PostingPlanner$Group" "isFixed" "()Z", Cond.selects RX2 ⟨"PostingPlanner$Plan", "isFixed", "()Z"⟩ yX0_isFixed, Cond.instanceMethod yX0_isFixed, Cond.code yX0_isFixed cX0_isFixed 1 (some .boolean), Cond.methodLink RX2 43 yX5_toldAt, Cond.instanceMethod yX5_toldAt, Cond.selects RX5 yX5_toldAt yX5_toldAt, Cond.initialized RX5]
def wsX10_literalAt_r3 : List Cond := [Cond.code yX5_toldAt cX5_toldAt 2 (some (.object "PostingPlanner$ToldClause")), Cond.fieldLink RX5 22 "PostingPlanner$Question" "size" "I", Cond.fieldLink RX5 11 "PostingPlanner$Question" "clauses" "[LPostingPlanner$ToldClause;", Cond.methodLink RX2 47 yX3_make, Cond.instanceMethod yX3_make, Cond.selects RX3 yX3_make yX3_make, Cond.initialized RX3, Cond.code yX3_make cX3_make 5 none, Cond.fieldLink RX3 24 "PostingPlanner$ToldClause" "kind" "I", Cond.fieldLink RX3 29 "PostingPlanner$ToldClause" "need" "I", Cond.fieldLink RX3 36 "PostingPlanner$ToldClause" "isNegated" "Z", Cond.fieldLink RX3 40 "PostingPlanner$ToldClause" "size" "I", Cond.methodLink RX3 32 ⟨"PostingPlanner$PlannedClause", "restart", "(IIJ)V"⟩, Cond.sameMethod "PostingPlanner$PlannedClause" "PostingPlanner$Group" "restart" "(IIJ)V", Cond.selects RX3 ⟨"PostingPlanner$PlannedClause", "restart", "(IIJ)V"⟩ yX0_restart, Cond.methodLink RX3 43 yX3_turn, Cond.instanceMethod yX3_turn, Cond.selects RX3 yX3_turn yX3_turn, Cond.code yX3_turn cX3_turn 2 none, Cond.fieldLink RX3 66 "PostingPlanner$PlannedClause" "kind" "I", Cond.sameField "PostingPlanner$PlannedClause" "PostingPlanner$Group" "kind" "I", Cond.fieldLink RX3 67 "PostingPlanner$PlannedClause" "need" "I", Cond.sameField "PostingPlanner$PlannedClause" "PostingPlanner$Group" "need" "I", Cond.methodLink RX3 47 ⟨"PostingPlanner$PlannedClause", "settleSome", "(I)V"⟩]
def wsX10_literalAt_r4 : List Cond := [Cond.sameMethod "PostingPlanner$PlannedClause" "PostingPlanner$Group" "settleSome" "(I)V", Cond.selects RX3 ⟨"PostingPlanner$PlannedClause", "settleSome", "(I)V"⟩ yX0_settleSome, Cond.instanceMethod yX0_settleSome, Cond.code yX0_settleSome cX0_settleSome 2 none, Cond.methodLink RX0 39 ⟨"PostingPlanner$Group", "fix", "(I)V"⟩, Cond.sameMethod "PostingPlanner$Group" "PostingPlanner$Group" "fix" "(I)V", Cond.selects RX2 ⟨"PostingPlanner$Group", "fix", "(I)V"⟩ yX0_fix, Cond.instanceMethod yX0_fix, Cond.code yX0_fix cX0_fix 2 none, Cond.selects RX3 ⟨"PostingPlanner$Group", "fix", "(I)V"⟩ yX0_fix, Cond.methodLink RX3 50 yX3_keepLiterals, Cond.instanceMethod yX3_keepLiterals, Cond.selects RX3 yX3_keepLiterals yX3_keepLiterals, Cond.code yX3_keepLiterals cX3_keepLiterals 7 none, Cond.fieldLink RX3 72 "PostingPlanner$ToldClause" "codes" "[I", Cond.fieldLink RX3 17 "PostingPlanner$PlannedClause" "literals" "[LPostingPlanner$PlannedLiteral;", Cond.methodLink RX3 68 ⟨"PostingPlanner$PlannedClause", "isFixed", "()Z"⟩, Cond.sameMethod "PostingPlanner$PlannedClause" "PostingPlanner$Group" "isFixed" "()Z", Cond.selects RX3 ⟨"PostingPlanner$PlannedClause", "isFixed", "()Z"⟩ yX0_isFixed, Cond.static yX10_contraryOf, Cond.code yX10_contraryOf cX10_contraryOf 1 (some .int), Cond.methodLink RX3 80 ⟨"PostingPlanner$PlannedClause", "hasRank", "(I)Z"⟩, Cond.sameMethod "PostingPlanner$PlannedClause" "PostingPlanner$Group" "hasRank" "(I)Z", Cond.selects RX3 ⟨"PostingPlanner$PlannedClause", "hasRank", "(I)Z"⟩ yX0_hasRank]
def wsX10_literalAt_r5 : List Cond := [Cond.instanceMethod yX0_hasRank, Cond.code yX0_hasRank cX0_hasRank 4 (some .boolean), Cond.fieldLink RX0 36 "PostingPlanner$Part" "rank" "I", Cond.methodLink RX0 32 ⟨"PostingPlanner$Group", "partAt", "(I)LPostingPlanner$Part;"⟩, Cond.sameMethod "PostingPlanner$Group" "PostingPlanner$Group" "partAt" "(I)LPostingPlanner$Part;", Cond.selects RX2 ⟨"PostingPlanner$Group", "partAt", "(I)LPostingPlanner$Part;"⟩ yX0_partAt, Cond.instanceMethod yX0_partAt, Cond.code yX0_partAt cX0_partAt 2 (some (.object "PostingPlanner$Part")), Cond.fieldLink RX0 9 "PostingPlanner$Group" "parts" "[LPostingPlanner$Part;", Cond.selects RX3 ⟨"PostingPlanner$Group", "partAt", "(I)LPostingPlanner$Part;"⟩ yX0_partAt, Cond.methodLink RX3 84 yX7_truthsOf, Cond.instanceMethod yX7_truthsOf, Cond.selects RX7 yX7_truthsOf yX7_truthsOf, Cond.code yX7_truthsOf cX7_truthsOf 5 (some .long), Cond.static yX10_isLiteralTrue, Cond.code yX10_isLiteralTrue cX10_isLiteralTrue 2 (some .boolean), Cond.methodLink RX3 90 yX4_make, Cond.instanceMethod yX4_make, Cond.selects RX4 yX4_make yX4_make, Cond.initialized RX4, Cond.code yX4_make cX4_make 6 none, Cond.fieldLink RX4 15 "PostingPlanner$PlannedLiteral" "there" "J", Cond.fieldLink RX4 19 "PostingPlanner$PlannedLiteral" "truths" "J", Cond.fieldLink RX4 22 "PostingPlanner$PlannedLiteral" "rank" "I"]
def wsX10_literalAt_r6 : List Cond := [Cond.sameField "PostingPlanner$PlannedLiteral" "PostingPlanner$Part" "rank" "I", Cond.fieldLink RX4 32 "PostingPlanner$PlannedLiteral" "estimate" "I", Cond.sameField "PostingPlanner$PlannedLiteral" "PostingPlanner$Part" "estimate" "I", Cond.fieldLink RX4 35 "PostingPlanner$PlannedLiteral" "place" "I", Cond.sameField "PostingPlanner$PlannedLiteral" "PostingPlanner$Part" "place" "I", Cond.methodLink RX4 26 yJ13_bitCount_95d88, Cond.static yJ13_bitCount_95d88, Cond.initialized RJ13, Cond.code yJ13_bitCount_95d88 cJ13_bitCount_95d88 2 (some .int), Cond.constantLong RJ13 314 (6148914691236517205), Cond.constantLong RJ13 316 (3689348814741910323), Cond.constantLong RJ13 318 (1085102592571150095), Cond.methodLink RX3 94 ⟨"PostingPlanner$PlannedClause", "keep", "(LPostingPlanner$Part;)V"⟩, Cond.sameMethod "PostingPlanner$PlannedClause" "PostingPlanner$Group" "keep" "(LPostingPlanner$Part;)V", Cond.selects RX3 ⟨"PostingPlanner$PlannedClause", "keep", "(LPostingPlanner$Part;)V"⟩ yX0_keep, Cond.instanceMethod yX0_keep, Cond.code yX0_keep cX0_keep 2 none, Cond.methodLink RX3 54 yX3_settleContraries, Cond.instanceMethod yX3_settleContraries, Cond.selects RX3 yX3_settleContraries yX3_settleContraries, Cond.code yX3_settleContraries cX3_settleContraries 3 none, Cond.fieldLink RX3 98 "PostingPlanner$PlannedClause" "size" "I", Cond.sameField "PostingPlanner$PlannedClause" "PostingPlanner$Group" "size" "I", Cond.fieldLink RX3 103 "PostingPlanner$Part" "rank" "I"]
def wsX10_literalAt_r7 : List Cond := [Cond.methodLink RX3 99 ⟨"PostingPlanner$PlannedClause", "partAt", "(I)LPostingPlanner$Part;"⟩, Cond.sameMethod "PostingPlanner$PlannedClause" "PostingPlanner$Group" "partAt" "(I)LPostingPlanner$Part;", Cond.selects RX3 ⟨"PostingPlanner$PlannedClause", "partAt", "(I)LPostingPlanner$Part;"⟩ yX0_partAt, Cond.methodLink RX3 106 ⟨"PostingPlanner$PlannedClause", "fix", "(I)V"⟩, Cond.sameMethod "PostingPlanner$PlannedClause" "PostingPlanner$Group" "fix" "(I)V", Cond.selects RX3 ⟨"PostingPlanner$PlannedClause", "fix", "(I)V"⟩ yX0_fix, Cond.methodLink RX3 57 ⟨"PostingPlanner$PlannedClause", "settleEmpty", "()V"⟩, Cond.sameMethod "PostingPlanner$PlannedClause" "PostingPlanner$Group" "settleEmpty" "()V", Cond.selects RX3 ⟨"PostingPlanner$PlannedClause", "settleEmpty", "()V"⟩ yX0_settleEmpty, Cond.instanceMethod yX0_settleEmpty, Cond.code yX0_settleEmpty cX0_settleEmpty 1 none, Cond.methodLink RX3 60 ⟨"PostingPlanner$PlannedClause", "appraise", "()V"⟩, Cond.sameMethod "PostingPlanner$PlannedClause" "PostingPlanner$Group" "appraise" "()V", Cond.selects RX3 ⟨"PostingPlanner$PlannedClause", "appraise", "()V"⟩ yX0_appraise, Cond.instanceMethod yX0_appraise, Cond.code yX0_appraise cX0_appraise 2 none, Cond.fieldLink RX0 53 "PostingPlanner$Group" "estimate" "I", Cond.sameField "PostingPlanner$Group" "PostingPlanner$Part" "estimate" "I", Cond.methodLink RX0 60 Lib.Math.min.name, Cond.static Lib.Math.min.name, Cond.initialized "java/lang/Math", Cond.code Lib.Math.min.name Lib.Math.min.code 2 (some .int), Cond.methodLink RX0 43 yJ13_bitCount_95d88, Cond.methodLink RX0 49 ⟨"PostingPlanner$Group", "leastEstimate", "(I)I"⟩]
def wsX10_literalAt_r8 : List Cond := [Cond.sameMethod "PostingPlanner$Group" "PostingPlanner$Group" "leastEstimate" "(I)I", Cond.selects RX2 ⟨"PostingPlanner$Group", "leastEstimate", "(I)I"⟩ yX0_leastEstimate, Cond.instanceMethod yX0_leastEstimate, Cond.code yX0_leastEstimate cX0_leastEstimate 5 (some .int), Cond.fieldLink RX0 66 "PostingPlanner$Part" "estimate" "I", Cond.selects RX3 ⟨"PostingPlanner$Group", "leastEstimate", "(I)I"⟩ yX0_leastEstimate, Cond.methodLink RX0 56 ⟨"PostingPlanner$Group", "sumOfEstimates", "()I"⟩, Cond.sameMethod "PostingPlanner$Group" "PostingPlanner$Group" "sumOfEstimates" "()I", Cond.selects RX2 ⟨"PostingPlanner$Group", "sumOfEstimates", "()I"⟩ yX0_sumOfEstimates, Cond.instanceMethod yX0_sumOfEstimates, Cond.code yX0_sumOfEstimates cX0_sumOfEstimates 4 (some .int), Cond.selects RX3 ⟨"PostingPlanner$Group", "sumOfEstimates", "()I"⟩ yX0_sumOfEstimates, Cond.methodLink RX3 63 ⟨"PostingPlanner$PlannedClause", "order", "()V"⟩, Cond.sameMethod "PostingPlanner$PlannedClause" "PostingPlanner$Group" "order" "()V", Cond.selects RX3 ⟨"PostingPlanner$PlannedClause", "order", "()V"⟩ yX0_order, Cond.instanceMethod yX0_order, Cond.code yX0_order cX0_order 4 none, Cond.methodLink RX0 67 ⟨"PostingPlanner$Group", "isBefore", "(LPostingPlanner$Part;LPostingPlanner$Part;)Z"⟩, Cond.sameMethod "PostingPlanner$Group" "PostingPlanner$Group" "isBefore" "(LPostingPlanner$Part;LPostingPlanner$Part;)Z", Cond.selects RX2 ⟨"PostingPlanner$Group", "isBefore", "(LPostingPlanner$Part;LPostingPlanner$Part;)Z"⟩ yX0_isBefore, Cond.instanceMethod yX0_isBefore, Cond.code yX0_isBefore cX0_isBefore 3 (some .boolean), Cond.selects RX3 ⟨"PostingPlanner$Group", "isBefore", "(LPostingPlanner$Part;LPostingPlanner$Part;)Z"⟩ yX0_isBefore, Cond.methodLink RX2 51 yX2_takeIn]
def wsX10_literalAt_r9 : List Cond := [Cond.instanceMethod yX2_takeIn, Cond.selects RX2 yX2_takeIn yX2_takeIn, Cond.code yX2_takeIn cX2_takeIn 2 none, Cond.fieldLink RX2 76 "PostingPlanner$PlannedClause" "kind" "I", Cond.fieldLink RX2 77 "PostingPlanner$Plan" "kind" "I", Cond.sameField "PostingPlanner$Plan" "PostingPlanner$Group" "kind" "I", Cond.fieldLink RX2 78 "PostingPlanner$Plan" "need" "I", Cond.sameField "PostingPlanner$Plan" "PostingPlanner$Group" "need" "I", Cond.methodLink RX2 71 ⟨"PostingPlanner$PlannedClause", "isFixed", "()Z"⟩, Cond.methodLink RX2 72 ⟨"PostingPlanner$Plan", "keep", "(LPostingPlanner$Part;)V"⟩, Cond.sameMethod "PostingPlanner$Plan" "PostingPlanner$Group" "keep" "(LPostingPlanner$Part;)V", Cond.selects RX2 ⟨"PostingPlanner$Plan", "keep", "(LPostingPlanner$Part;)V"⟩ yX0_keep, Cond.methodLink RX2 79 ⟨"PostingPlanner$Plan", "fix", "(I)V"⟩, Cond.sameMethod "PostingPlanner$Plan" "PostingPlanner$Group" "fix" "(I)V", Cond.selects RX2 ⟨"PostingPlanner$Plan", "fix", "(I)V"⟩ yX0_fix, Cond.methodLink RX2 58 ⟨"PostingPlanner$Plan", "settleSome", "(I)V"⟩, Cond.sameMethod "PostingPlanner$Plan" "PostingPlanner$Group" "settleSome" "(I)V", Cond.selects RX2 ⟨"PostingPlanner$Plan", "settleSome", "(I)V"⟩ yX0_settleSome, Cond.methodLink RX2 62 ⟨"PostingPlanner$Plan", "settleEmpty", "()V"⟩, Cond.sameMethod "PostingPlanner$Plan" "PostingPlanner$Group" "settleEmpty" "()V", Cond.selects RX2 ⟨"PostingPlanner$Plan", "settleEmpty", "()V"⟩ yX0_settleEmpty, Cond.methodLink RX2 65 ⟨"PostingPlanner$Plan", "appraise", "()V"⟩, Cond.sameMethod "PostingPlanner$Plan" "PostingPlanner$Group" "appraise" "()V", Cond.selects RX2 ⟨"PostingPlanner$Plan", "appraise", "()V"⟩ yX0_appraise]
def wsX10_literalAt_r10 : List Cond := [Cond.methodLink RX2 68 ⟨"PostingPlanner$Plan", "order", "()V"⟩, Cond.sameMethod "PostingPlanner$Plan" "PostingPlanner$Group" "order" "()V", Cond.selects RX2 ⟨"PostingPlanner$Plan", "order", "()V"⟩ yX0_order, Cond.methodLink RX10 189 yX2_plannedAt, Cond.instanceMethod yX2_plannedAt, Cond.selects RX2 yX2_plannedAt yX2_plannedAt, Cond.code yX2_plannedAt cX2_plannedAt 3 (some (.object "PostingPlanner$PlannedClause")), Cond.fieldLink RX2 86 "PostingPlanner$Part" "rank" "I", Cond.methodLink RX2 82 ⟨"PostingPlanner$Plan", "partAt", "(I)LPostingPlanner$Part;"⟩, Cond.sameMethod "PostingPlanner$Plan" "PostingPlanner$Group" "partAt" "(I)LPostingPlanner$Part;", Cond.selects RX2 ⟨"PostingPlanner$Plan", "partAt", "(I)LPostingPlanner$Part;"⟩ yX0_partAt, Cond.methodLink RX10 143 ⟨"PostingPlanner$PlannedClause", "partAt", "(I)LPostingPlanner$Part;"⟩]
def wsX10_literalAt : List Cond := .code yX10_literalAt cX10_literalAt 4 (some .int) :: ((wsX10_literalAt_r1 ++ (wsX10_literalAt_r2 ++ (wsX10_literalAt_r3 ++ (wsX10_literalAt_r4 ++ (wsX10_literalAt_r5 ++ (wsX10_literalAt_r6 ++ (wsX10_literalAt_r7 ++ (wsX10_literalAt_r8 ++ (wsX10_literalAt_r9 ++ wsX10_literalAt_r10))))))))) ++ wsX20 ++ wsX30 ++ wsX40 ++ wsX100 ++ wsX50 ++ wsX70 ++ wsX90 ++ (vx_atS RX10 50 "java/lang/IllegalArgumentException" ["java/lang/RuntimeException", "java/lang/Exception"]).filter goodWord)
def wsX10_begin_r1 : List Cond := [Cond.fieldLink RX10 38 "PostingPlanner" "run" "LPostingPlanner$Run;", Cond.fieldLink RX10 19 "PostingPlanner" "question" "LPostingPlanner$Question;", Cond.fieldLink RX10 10 "PostingPlanner" "shelf" "LPostingPlanner$Shelf;", Cond.methodLink RX10 152 yX6_restart, Cond.instanceMethod yX6_restart, Cond.selects RX6 yX6_restart yX6_restart, Cond.initialized RX6, Cond.code yX6_restart cX6_restart 3 (some .int), Cond.fieldLink RX6 23 "PostingPlanner$Run" "plan" "LPostingPlanner$Plan;", Cond.fieldLink RX6 12 "PostingPlanner$Run" "tally" "LPostingPlanner$Tally;", Cond.fieldLink RX6 31 "PostingPlanner$Tally" "sum" "I", Cond.fieldLink RX6 35 "PostingPlanner$Run" "isBegun" "Z", Cond.fieldLink RX6 39 "PostingPlanner$Run" "given" "I", Cond.fieldLink RX6 42 "PostingPlanner$Plan" "estimate" "I", Cond.sameField "PostingPlanner$Plan" "PostingPlanner$Part" "estimate" "I", Cond.methodLink RX6 27 yX2_make, Cond.instanceMethod yX2_make, Cond.selects RX2 yX2_make yX2_make, Cond.initialized RX2, Cond.code yX2_make cX2_make 7 none, Cond.fieldLink RX2 26 "PostingPlanner$Question" "kind" "I", Cond.fieldLink RX2 32 "PostingPlanner$Question" "need" "I", Cond.fieldLink RX2 11 "PostingPlanner$Plan" "clauses" "[LPostingPlanner$PlannedClause;", Cond.fieldLink RX2 55 "PostingPlanner$Plan" "size" "I"]
def wsX10_begin_r2 : List Cond := [Cond.sameField "PostingPlanner$Plan" "PostingPlanner$Group" "size" "I", Cond.methodLink RX2 20 yX7_allThere, Cond.instanceMethod yX7_allThere, Cond.selects RX7 yX7_allThere yX7_allThere, Cond.initialized RX7, Cond.code yX7_allThere cX7_allThere 4 (some .long), Cond.fieldLink RX7 9 "PostingPlanner$Shelf" "words" "[I", Cond.methodLink RX2 35 ⟨"PostingPlanner$Plan", "restart", "(IIJ)V"⟩, Cond.sameMethod "PostingPlanner$Plan" "PostingPlanner$Group" "restart" "(IIJ)V", Cond.selects RX2 ⟨"PostingPlanner$Plan", "restart", "(IIJ)V"⟩ yX0_restart, Cond.instanceMethod yX0_restart, Cond.initialized RX0, Cond.code yX0_restart cX0_restart 5 none, Cond.fieldLink RX0 15 "PostingPlanner$Group" "kind" "I", Cond.fieldLink RX0 19 "PostingPlanner$Group" "need" "I", Cond.fieldLink RX0 22 "PostingPlanner$Group" "size" "I", Cond.fieldLink RX0 25 "PostingPlanner$Group" "there" "J", Cond.fieldLink RX0 29 "PostingPlanner$Group" "place" "I", Cond.sameField "PostingPlanner$Group" "PostingPlanner$Part" "place" "I", Cond.methodLink RX2 39 ⟨"PostingPlanner$Plan", "isFixed", "()Z"⟩, Cond.sameMethod "PostingPlanner$Plan" "PostingPlanner$Group" "isFixed" "()Z", Cond.selects RX2 ⟨"PostingPlanner$Plan", "isFixed", "()Z"⟩ yX0_isFixed, Cond.instanceMethod yX0_isFixed, Cond.code yX0_isFixed cX0_isFixed 1 (some .boolean)]
def wsX10_begin_r3 : List Cond := [Cond.methodLink RX2 43 yX5_toldAt, Cond.instanceMethod yX5_toldAt, Cond.selects RX5 yX5_toldAt yX5_toldAt, Cond.initialized RX5, Cond.code yX5_toldAt cX5_toldAt 2 (some (.object "PostingPlanner$ToldClause")), Cond.fieldLink RX5 22 "PostingPlanner$Question" "size" "I", Cond.fieldLink RX5 11 "PostingPlanner$Question" "clauses" "[LPostingPlanner$ToldClause;", Cond.methodLink RX2 47 yX3_make, Cond.instanceMethod yX3_make, Cond.selects RX3 yX3_make yX3_make, Cond.initialized RX3, Cond.code yX3_make cX3_make 5 none, Cond.fieldLink RX3 24 "PostingPlanner$ToldClause" "kind" "I", Cond.fieldLink RX3 29 "PostingPlanner$ToldClause" "need" "I", Cond.fieldLink RX3 36 "PostingPlanner$ToldClause" "isNegated" "Z", Cond.fieldLink RX3 40 "PostingPlanner$ToldClause" "size" "I", Cond.methodLink RX3 32 ⟨"PostingPlanner$PlannedClause", "restart", "(IIJ)V"⟩, Cond.sameMethod "PostingPlanner$PlannedClause" "PostingPlanner$Group" "restart" "(IIJ)V", Cond.selects RX3 ⟨"PostingPlanner$PlannedClause", "restart", "(IIJ)V"⟩ yX0_restart, Cond.methodLink RX3 43 yX3_turn, Cond.instanceMethod yX3_turn, Cond.selects RX3 yX3_turn yX3_turn, Cond.code yX3_turn cX3_turn 2 none, Cond.fieldLink RX3 66 "PostingPlanner$PlannedClause" "kind" "I"]
def wsX10_begin_r4 : List Cond := [Cond.sameField "PostingPlanner$PlannedClause" "PostingPlanner$Group" "kind" "I", Cond.fieldLink RX3 67 "PostingPlanner$PlannedClause" "need" "I", Cond.sameField "PostingPlanner$PlannedClause" "PostingPlanner$Group" "need" "I", Cond.methodLink RX3 47 ⟨"PostingPlanner$PlannedClause", "settleSome", "(I)V"⟩, Cond.sameMethod "PostingPlanner$PlannedClause" "PostingPlanner$Group" "settleSome" "(I)V", Cond.selects RX3 ⟨"PostingPlanner$PlannedClause", "settleSome", "(I)V"⟩ yX0_settleSome, Cond.instanceMethod yX0_settleSome, Cond.code yX0_settleSome cX0_settleSome 2 none, Cond.methodLink RX0 39 ⟨"PostingPlanner$Group", "fix", "(I)V"⟩, Cond.sameMethod "PostingPlanner$Group" "PostingPlanner$Group" "fix" "(I)V", Cond.selects RX2 ⟨"PostingPlanner$Group", "fix", "(I)V"⟩ yX0_fix, Cond.instanceMethod yX0_fix, Cond.code yX0_fix cX0_fix 2 none, Cond.selects RX3 ⟨"PostingPlanner$Group", "fix", "(I)V"⟩ yX0_fix, Cond.methodLink RX3 50 yX3_keepLiterals, Cond.instanceMethod yX3_keepLiterals, Cond.selects RX3 yX3_keepLiterals yX3_keepLiterals, Cond.code yX3_keepLiterals cX3_keepLiterals 7 none, Cond.fieldLink RX3 72 "PostingPlanner$ToldClause" "codes" "[I", Cond.fieldLink RX3 17 "PostingPlanner$PlannedClause" "literals" "[LPostingPlanner$PlannedLiteral;", Cond.methodLink RX3 68 ⟨"PostingPlanner$PlannedClause", "isFixed", "()Z"⟩, Cond.sameMethod "PostingPlanner$PlannedClause" "PostingPlanner$Group" "isFixed" "()Z", Cond.selects RX3 ⟨"PostingPlanner$PlannedClause", "isFixed", "()Z"⟩ yX0_isFixed, Cond.static yX10_contraryOf]
def wsX10_begin_r5 : List Cond := [Cond.initialized RX10, Cond.code yX10_contraryOf cX10_contraryOf 1 (some .int), Cond.methodLink RX3 80 ⟨"PostingPlanner$PlannedClause", "hasRank", "(I)Z"⟩, Cond.sameMethod "PostingPlanner$PlannedClause" "PostingPlanner$Group" "hasRank" "(I)Z", Cond.selects RX3 ⟨"PostingPlanner$PlannedClause", "hasRank", "(I)Z"⟩ yX0_hasRank, Cond.instanceMethod yX0_hasRank, Cond.code yX0_hasRank cX0_hasRank 4 (some .boolean), Cond.fieldLink RX0 36 "PostingPlanner$Part" "rank" "I", Cond.methodLink RX0 32 ⟨"PostingPlanner$Group", "partAt", "(I)LPostingPlanner$Part;"⟩, Cond.sameMethod "PostingPlanner$Group" "PostingPlanner$Group" "partAt" "(I)LPostingPlanner$Part;", Cond.selects RX2 ⟨"PostingPlanner$Group", "partAt", "(I)LPostingPlanner$Part;"⟩ yX0_partAt, Cond.instanceMethod yX0_partAt, Cond.code yX0_partAt cX0_partAt 2 (some (.object "PostingPlanner$Part")), Cond.fieldLink RX0 9 "PostingPlanner$Group" "parts" "[LPostingPlanner$Part;", Cond.selects RX3 ⟨"PostingPlanner$Group", "partAt", "(I)LPostingPlanner$Part;"⟩ yX0_partAt, Cond.methodLink RX3 84 yX7_truthsOf, Cond.instanceMethod yX7_truthsOf, Cond.selects RX7 yX7_truthsOf yX7_truthsOf, Cond.code yX7_truthsOf cX7_truthsOf 5 (some .long), Cond.static yX10_isLiteralTrue, Cond.code yX10_isLiteralTrue cX10_isLiteralTrue 2 (some .boolean), Cond.methodLink RX3 90 yX4_make, Cond.instanceMethod yX4_make, Cond.selects RX4 yX4_make yX4_make]
def wsX10_begin_r6 : List Cond := [Cond.initialized RX4, Cond.code yX4_make cX4_make 6 none, Cond.fieldLink RX4 15 "PostingPlanner$PlannedLiteral" "there" "J", Cond.fieldLink RX4 19 "PostingPlanner$PlannedLiteral" "truths" "J", Cond.fieldLink RX4 22 "PostingPlanner$PlannedLiteral" "rank" "I", Cond.sameField "PostingPlanner$PlannedLiteral" "PostingPlanner$Part" "rank" "I", Cond.fieldLink RX4 32 "PostingPlanner$PlannedLiteral" "estimate" "I", Cond.sameField "PostingPlanner$PlannedLiteral" "PostingPlanner$Part" "estimate" "I", Cond.fieldLink RX4 35 "PostingPlanner$PlannedLiteral" "place" "I", Cond.sameField "PostingPlanner$PlannedLiteral" "PostingPlanner$Part" "place" "I", Cond.methodLink RX4 26 yJ13_bitCount_95d88, Cond.static yJ13_bitCount_95d88, Cond.initialized RJ13, Cond.code yJ13_bitCount_95d88 cJ13_bitCount_95d88 2 (some .int), Cond.constantLong RJ13 314 (6148914691236517205), Cond.constantLong RJ13 316 (3689348814741910323), Cond.constantLong RJ13 318 (1085102592571150095), Cond.methodLink RX3 94 ⟨"PostingPlanner$PlannedClause", "keep", "(LPostingPlanner$Part;)V"⟩, Cond.sameMethod "PostingPlanner$PlannedClause" "PostingPlanner$Group" "keep" "(LPostingPlanner$Part;)V", Cond.selects RX3 ⟨"PostingPlanner$PlannedClause", "keep", "(LPostingPlanner$Part;)V"⟩ yX0_keep, Cond.instanceMethod yX0_keep, Cond.code yX0_keep cX0_keep 2 none, Cond.methodLink RX3 54 yX3_settleContraries, Cond.instanceMethod yX3_settleContraries]
def wsX10_begin_r7 : List Cond := [Cond.selects RX3 yX3_settleContraries yX3_settleContraries, Cond.code yX3_settleContraries cX3_settleContraries 3 none, Cond.fieldLink RX3 98 "PostingPlanner$PlannedClause" "size" "I", Cond.sameField "PostingPlanner$PlannedClause" "PostingPlanner$Group" "size" "I", Cond.fieldLink RX3 103 "PostingPlanner$Part" "rank" "I", Cond.methodLink RX3 99 ⟨"PostingPlanner$PlannedClause", "partAt", "(I)LPostingPlanner$Part;"⟩, Cond.sameMethod "PostingPlanner$PlannedClause" "PostingPlanner$Group" "partAt" "(I)LPostingPlanner$Part;", Cond.selects RX3 ⟨"PostingPlanner$PlannedClause", "partAt", "(I)LPostingPlanner$Part;"⟩ yX0_partAt, Cond.methodLink RX3 106 ⟨"PostingPlanner$PlannedClause", "fix", "(I)V"⟩, Cond.sameMethod "PostingPlanner$PlannedClause" "PostingPlanner$Group" "fix" "(I)V", Cond.selects RX3 ⟨"PostingPlanner$PlannedClause", "fix", "(I)V"⟩ yX0_fix, Cond.methodLink RX3 57 ⟨"PostingPlanner$PlannedClause", "settleEmpty", "()V"⟩, Cond.sameMethod "PostingPlanner$PlannedClause" "PostingPlanner$Group" "settleEmpty" "()V", Cond.selects RX3 ⟨"PostingPlanner$PlannedClause", "settleEmpty", "()V"⟩ yX0_settleEmpty, Cond.instanceMethod yX0_settleEmpty, Cond.code yX0_settleEmpty cX0_settleEmpty 1 none, Cond.methodLink RX3 60 ⟨"PostingPlanner$PlannedClause", "appraise", "()V"⟩, Cond.sameMethod "PostingPlanner$PlannedClause" "PostingPlanner$Group" "appraise" "()V", Cond.selects RX3 ⟨"PostingPlanner$PlannedClause", "appraise", "()V"⟩ yX0_appraise, Cond.instanceMethod yX0_appraise, Cond.code yX0_appraise cX0_appraise 2 none, Cond.fieldLink RX0 53 "PostingPlanner$Group" "estimate" "I", Cond.sameField "PostingPlanner$Group" "PostingPlanner$Part" "estimate" "I", Cond.methodLink RX0 60 Lib.Math.min.name]
def wsX10_begin_r8 : List Cond := [Cond.static Lib.Math.min.name, Cond.initialized "java/lang/Math", Cond.code Lib.Math.min.name Lib.Math.min.code 2 (some .int), Cond.methodLink RX0 43 yJ13_bitCount_95d88, Cond.methodLink RX0 49 ⟨"PostingPlanner$Group", "leastEstimate", "(I)I"⟩, Cond.sameMethod "PostingPlanner$Group" "PostingPlanner$Group" "leastEstimate" "(I)I", Cond.selects RX2 ⟨"PostingPlanner$Group", "leastEstimate", "(I)I"⟩ yX0_leastEstimate, Cond.instanceMethod yX0_leastEstimate, Cond.code yX0_leastEstimate cX0_leastEstimate 5 (some .int), Cond.fieldLink RX0 66 "PostingPlanner$Part" "estimate" "I", Cond.selects RX3 ⟨"PostingPlanner$Group", "leastEstimate", "(I)I"⟩ yX0_leastEstimate, Cond.methodLink RX0 56 ⟨"PostingPlanner$Group", "sumOfEstimates", "()I"⟩, Cond.sameMethod "PostingPlanner$Group" "PostingPlanner$Group" "sumOfEstimates" "()I", Cond.selects RX2 ⟨"PostingPlanner$Group", "sumOfEstimates", "()I"⟩ yX0_sumOfEstimates, Cond.instanceMethod yX0_sumOfEstimates, Cond.code yX0_sumOfEstimates cX0_sumOfEstimates 4 (some .int), Cond.selects RX3 ⟨"PostingPlanner$Group", "sumOfEstimates", "()I"⟩ yX0_sumOfEstimates, Cond.methodLink RX3 63 ⟨"PostingPlanner$PlannedClause", "order", "()V"⟩, Cond.sameMethod "PostingPlanner$PlannedClause" "PostingPlanner$Group" "order" "()V", Cond.selects RX3 ⟨"PostingPlanner$PlannedClause", "order", "()V"⟩ yX0_order, Cond.instanceMethod yX0_order, Cond.code yX0_order cX0_order 4 none, Cond.methodLink RX0 67 ⟨"PostingPlanner$Group", "isBefore", "(LPostingPlanner$Part;LPostingPlanner$Part;)Z"⟩, Cond.sameMethod "PostingPlanner$Group" "PostingPlanner$Group" "isBefore" "(LPostingPlanner$Part;LPostingPlanner$Part;)Z"]
def wsX10_begin_r9 : List Cond := [Cond.selects RX2 ⟨"PostingPlanner$Group", "isBefore", "(LPostingPlanner$Part;LPostingPlanner$Part;)Z"⟩ yX0_isBefore, Cond.instanceMethod yX0_isBefore, Cond.code yX0_isBefore cX0_isBefore 3 (some .boolean), Cond.selects RX3 ⟨"PostingPlanner$Group", "isBefore", "(LPostingPlanner$Part;LPostingPlanner$Part;)Z"⟩ yX0_isBefore, Cond.methodLink RX2 51 yX2_takeIn, Cond.instanceMethod yX2_takeIn, Cond.selects RX2 yX2_takeIn yX2_takeIn, Cond.code yX2_takeIn cX2_takeIn 2 none, Cond.fieldLink RX2 76 "PostingPlanner$PlannedClause" "kind" "I", Cond.fieldLink RX2 77 "PostingPlanner$Plan" "kind" "I", Cond.sameField "PostingPlanner$Plan" "PostingPlanner$Group" "kind" "I", Cond.fieldLink RX2 78 "PostingPlanner$Plan" "need" "I", Cond.sameField "PostingPlanner$Plan" "PostingPlanner$Group" "need" "I", Cond.methodLink RX2 71 ⟨"PostingPlanner$PlannedClause", "isFixed", "()Z"⟩, Cond.methodLink RX2 72 ⟨"PostingPlanner$Plan", "keep", "(LPostingPlanner$Part;)V"⟩, Cond.sameMethod "PostingPlanner$Plan" "PostingPlanner$Group" "keep" "(LPostingPlanner$Part;)V", Cond.selects RX2 ⟨"PostingPlanner$Plan", "keep", "(LPostingPlanner$Part;)V"⟩ yX0_keep, Cond.methodLink RX2 79 ⟨"PostingPlanner$Plan", "fix", "(I)V"⟩, Cond.sameMethod "PostingPlanner$Plan" "PostingPlanner$Group" "fix" "(I)V", Cond.selects RX2 ⟨"PostingPlanner$Plan", "fix", "(I)V"⟩ yX0_fix, Cond.methodLink RX2 58 ⟨"PostingPlanner$Plan", "settleSome", "(I)V"⟩, Cond.sameMethod "PostingPlanner$Plan" "PostingPlanner$Group" "settleSome" "(I)V", Cond.selects RX2 ⟨"PostingPlanner$Plan", "settleSome", "(I)V"⟩ yX0_settleSome, Cond.methodLink RX2 62 ⟨"PostingPlanner$Plan", "settleEmpty", "()V"⟩]
def wsX10_begin_r10 : List Cond := [Cond.sameMethod "PostingPlanner$Plan" "PostingPlanner$Group" "settleEmpty" "()V", Cond.selects RX2 ⟨"PostingPlanner$Plan", "settleEmpty", "()V"⟩ yX0_settleEmpty, Cond.methodLink RX2 65 ⟨"PostingPlanner$Plan", "appraise", "()V"⟩, Cond.sameMethod "PostingPlanner$Plan" "PostingPlanner$Group" "appraise" "()V", Cond.selects RX2 ⟨"PostingPlanner$Plan", "appraise", "()V"⟩ yX0_appraise, Cond.methodLink RX2 68 ⟨"PostingPlanner$Plan", "order", "()V"⟩, Cond.sameMethod "PostingPlanner$Plan" "PostingPlanner$Group" "order" "()V", Cond.selects RX2 ⟨"PostingPlanner$Plan", "order", "()V"⟩ yX0_order]
def wsX10_begin : List Cond := .code yX10_begin cX10_begin 1 (some .int) :: ((wsX10_begin_r1 ++ (wsX10_begin_r2 ++ (wsX10_begin_r3 ++ (wsX10_begin_r4 ++ (wsX10_begin_r5 ++ (wsX10_begin_r6 ++ (wsX10_begin_r7 ++ (wsX10_begin_r8 ++ (wsX10_begin_r9 ++ wsX10_begin_r10))))))))) ++ wsX100 ++ wsX60 ++ wsX80 ++ wsX20 ++ wsX30 ++ wsX40 ++ wsX50 ++ wsX70 ++ wsX90)
def wsX10_checkRun : List Cond := .code yX10_checkRun cX10_checkRun 1 none :: ([.classLink RX10 90 "java/lang/IllegalStateException", .initialized "java/lang/IllegalStateException", .fieldLink RX10 38 "PostingPlanner" "run" "LPostingPlanner$Run;", .fieldLink RX10 177 "PostingPlanner$Run" "isBegun" "Z"] ++ wsX100 ++ wsX60 ++ (vx_atS RX10 94 "java/lang/IllegalStateException" ["java/lang/RuntimeException", "java/lang/Exception"]).filter goodWord)
def wsX10_leap_r1 : List Cond := [Cond.fieldLink RX10 38 "PostingPlanner" "run" "LPostingPlanner$Run;", Cond.methodLink RX10 42 yX10_checkDocument, Cond.instanceMethod yX10_checkDocument, Cond.selects RX10 yX10_checkDocument yX10_checkDocument, Cond.initialized RX10, Cond.code yX10_checkDocument cX10_checkDocument 2 none, Cond.classLink RX10 99 "java/lang/IndexOutOfBoundsException", Cond.initialized "java/lang/IndexOutOfBoundsException", Cond.methodLink RX10 155 yX10_checkRun, Cond.instanceMethod yX10_checkRun, Cond.selects RX10 yX10_checkRun yX10_checkRun, Cond.code yX10_checkRun cX10_checkRun 1 none, Cond.classLink RX10 90 "java/lang/IllegalStateException", Cond.initialized "java/lang/IllegalStateException", Cond.fieldLink RX10 177 "PostingPlanner$Run" "isBegun" "Z", Cond.methodLink RX10 158 yX6_advance, Cond.instanceMethod yX6_advance, Cond.selects RX6 yX6_advance yX6_advance, Cond.initialized RX6, Cond.code yX6_advance cX6_advance 4 (some .int), Cond.fieldLink RX6 39 "PostingPlanner$Run" "given" "I", Cond.methodLink RX6 45 Lib.Math.max.name, Cond.static Lib.Math.max.name, Cond.initialized "java/lang/Math"]
def wsX10_leap_r2 : List Cond := [Cond.code Lib.Math.max.name Lib.Math.max.code 2 (some .int), Cond.fieldLink RX6 23 "PostingPlanner$Run" "plan" "LPostingPlanner$Plan;", Cond.methodLink RX6 51 ⟨"PostingPlanner$Plan", "seek", "(II)I"⟩, Cond.sameMethod "PostingPlanner$Plan" "PostingPlanner$Group" "seek" "(II)I", Cond.selects RX2 ⟨"PostingPlanner$Plan", "seek", "(II)I"⟩ yX0_seek, Cond.instanceMethod yX0_seek, Cond.initialized RX0, Cond.code yX0_seek cX0_seek 3 (some .int), Cond.fieldLink RX0 29 "PostingPlanner$Group" "place" "I", Cond.sameField "PostingPlanner$Group" "PostingPlanner$Part" "place" "I", Cond.fieldLink RX0 15 "PostingPlanner$Group" "kind" "I", Cond.fieldLink RX0 25 "PostingPlanner$Group" "there" "J", Cond.methodLink RX0 71 ⟨"PostingPlanner$Group", "seekAll", "(II)I"⟩, Cond.sameMethod "PostingPlanner$Group" "PostingPlanner$Group" "seekAll" "(II)I", Cond.selects RX2 ⟨"PostingPlanner$Group", "seekAll", "(II)I"⟩ yX0_seekAll, Cond.instanceMethod yX0_seekAll, Cond.selects RX3 ⟨"PostingPlanner$Group", "seekAll", "(II)I"⟩ yX0_seekAll, Cond.methodLink RX0 74 ⟨"PostingPlanner$Group", "seekAny", "(II)I"⟩, Cond.sameMethod "PostingPlanner$Group" "PostingPlanner$Group" "seekAny" "(II)I", Cond.selects RX2 ⟨"PostingPlanner$Group", "seekAny", "(II)I"⟩ yX0_seekAny, Cond.instanceMethod yX0_seekAny, Cond.selects RX3 ⟨"PostingPlanner$Group", "seekAny", "(II)I"⟩ yX0_seekAny, Cond.methodLink RX0 77 ⟨"PostingPlanner$Group", "seekSome", "(II)I"⟩, Cond.sameMethod "PostingPlanner$Group" "PostingPlanner$Group" "seekSome" "(II)I"]
def wsX10_leap_r3 : List Cond := [Cond.selects RX2 ⟨"PostingPlanner$Group", "seekSome", "(II)I"⟩ yX0_seekSome, Cond.instanceMethod yX0_seekSome, Cond.selects RX3 ⟨"PostingPlanner$Group", "seekSome", "(II)I"⟩ yX0_seekSome, Cond.static yX10_firstOf, Cond.code yX10_firstOf cX10_firstOf 4 (some .int), Cond.code yX0_seekAll cX0_seekAll 8 (some .int), Cond.fieldLink RX0 22 "PostingPlanner$Group" "size" "I", Cond.methodLink RX0 32 ⟨"PostingPlanner$Group", "partAt", "(I)LPostingPlanner$Part;"⟩, Cond.sameMethod "PostingPlanner$Group" "PostingPlanner$Group" "partAt" "(I)LPostingPlanner$Part;", Cond.selects RX2 ⟨"PostingPlanner$Group", "partAt", "(I)LPostingPlanner$Part;"⟩ yX0_partAt, Cond.instanceMethod yX0_partAt, Cond.code yX0_partAt cX0_partAt 2 (some (.object "PostingPlanner$Part")), Cond.fieldLink RX0 9 "PostingPlanner$Group" "parts" "[LPostingPlanner$Part;", Cond.selects RX3 ⟨"PostingPlanner$Group", "partAt", "(I)LPostingPlanner$Part;"⟩ yX0_partAt, Cond.methodLink RX0 84 ⟨"PostingPlanner$Part", "seek", "(II)I"⟩, Cond.sameMethod "PostingPlanner$Part" "PostingPlanner$Part" "seek" "(II)I", Cond.selects RX2 ⟨"PostingPlanner$Part", "seek", "(II)I"⟩ yX0_seek, Cond.selects RX3 ⟨"PostingPlanner$Part", "seek", "(II)I"⟩ yX0_seek, Cond.selects RX4 ⟨"PostingPlanner$Part", "seek", "(II)I"⟩ yX4_seek, Cond.instanceMethod yX4_seek, Cond.initialized RX4, Cond.code yX4_seek cX4_seek 3 (some .int), Cond.fieldLink RX4 35 "PostingPlanner$PlannedLiteral" "place" "I", Cond.sameField "PostingPlanner$PlannedLiteral" "PostingPlanner$Part" "place" "I"]
def wsX10_leap_r4 : List Cond := [Cond.fieldLink RX4 19 "PostingPlanner$PlannedLiteral" "truths" "J", Cond.fieldLink RX4 9 "PostingPlanner$PlannedLiteral" "tally" "LPostingPlanner$Tally;", Cond.fieldLink RX4 42 "PostingPlanner$Tally" "sum" "I", Cond.methodLink RX4 47 yX4_cost, Cond.instanceMethod yX4_cost, Cond.selects RX4 yX4_cost yX4_cost, Cond.code yX4_cost cX4_cost 4 (some .int), Cond.fieldLink RX4 22 "PostingPlanner$PlannedLiteral" "rank" "I", Cond.sameField "PostingPlanner$PlannedLiteral" "PostingPlanner$Part" "rank" "I", Cond.fieldLink RX4 15 "PostingPlanner$PlannedLiteral" "there" "J", Cond.methodLink RX4 26 yJ13_bitCount_95d88, Cond.static yJ13_bitCount_95d88, Cond.initialized RJ13, Cond.code yJ13_bitCount_95d88 cJ13_bitCount_95d88 2 (some .int), Cond.constantLong RJ13 314 (6148914691236517205), Cond.constantLong RJ13 316 (3689348814741910323), Cond.constantLong RJ13 318 (1085102592571150095), Cond.code yX0_seekAny cX0_seekAny 6 (some .int), Cond.methodLink RX0 60 Lib.Math.min.name, Cond.static Lib.Math.min.name, Cond.code Lib.Math.min.name Lib.Math.min.code 2 (some .int), Cond.code yX0_seekSome cX0_seekSome 6 (some .int), Cond.methodLink RX0 87 ⟨"PostingPlanner$Group", "neededPlace", "()I"⟩, Cond.sameMethod "PostingPlanner$Group" "PostingPlanner$Group" "neededPlace" "()I"]
def wsX10_leap_r5 : List Cond := [Cond.selects RX2 ⟨"PostingPlanner$Group", "neededPlace", "()I"⟩ yX0_neededPlace, Cond.instanceMethod yX0_neededPlace, Cond.code yX0_neededPlace cX0_neededPlace 4 (some .int), Cond.fieldLink RX0 90 "PostingPlanner$Part" "place" "I", Cond.fieldLink RX0 19 "PostingPlanner$Group" "need" "I", Cond.methodLink RX0 91 ⟨"PostingPlanner$Group", "placesUpTo", "(I)I"⟩, Cond.sameMethod "PostingPlanner$Group" "PostingPlanner$Group" "placesUpTo" "(I)I", Cond.selects RX2 ⟨"PostingPlanner$Group", "placesUpTo", "(I)I"⟩ yX0_placesUpTo, Cond.instanceMethod yX0_placesUpTo, Cond.code yX0_placesUpTo cX0_placesUpTo 5 (some .int), Cond.selects RX3 ⟨"PostingPlanner$Group", "placesUpTo", "(I)I"⟩ yX0_placesUpTo, Cond.selects RX3 ⟨"PostingPlanner$Group", "neededPlace", "()I"⟩ yX0_neededPlace]
def wsX10_leap : List Cond := .code yX10_leap cX10_leap 2 (some .int) :: ((wsX10_leap_r1 ++ (wsX10_leap_r2 ++ (wsX10_leap_r3 ++ (wsX10_leap_r4 ++ wsX10_leap_r5)))) ++ wsX100 ++ wsX60 ++ wsX20 ++ wsX30 ++ wsX40 ++ wsX80 ++ (vx_atS RX10 103 "java/lang/IndexOutOfBoundsException" ["java/lang/RuntimeException", "java/lang/Exception"]).filter goodWord ++ (vx_atS RX10 94 "java/lang/IllegalStateException" ["java/lang/RuntimeException", "java/lang/Exception"]).filter goodWord)
def wsX10_next_r1 : List Cond := [Cond.fieldLink RX10 38 "PostingPlanner" "run" "LPostingPlanner$Run;", Cond.methodLink RX10 155 yX10_checkRun, Cond.instanceMethod yX10_checkRun, Cond.selects RX10 yX10_checkRun yX10_checkRun, Cond.initialized RX10, Cond.code yX10_checkRun cX10_checkRun 1 none, Cond.classLink RX10 90 "java/lang/IllegalStateException", Cond.initialized "java/lang/IllegalStateException", Cond.fieldLink RX10 177 "PostingPlanner$Run" "isBegun" "Z", Cond.methodLink RX10 158 yX6_advance, Cond.instanceMethod yX6_advance, Cond.selects RX6 yX6_advance yX6_advance, Cond.initialized RX6, Cond.code yX6_advance cX6_advance 4 (some .int), Cond.fieldLink RX6 39 "PostingPlanner$Run" "given" "I", Cond.methodLink RX6 45 Lib.Math.max.name, Cond.static Lib.Math.max.name, Cond.initialized "java/lang/Math", Cond.code Lib.Math.max.name Lib.Math.max.code 2 (some .int), Cond.fieldLink RX6 23 "PostingPlanner$Run" "plan" "LPostingPlanner$Plan;", Cond.methodLink RX6 51 ⟨"PostingPlanner$Plan", "seek", "(II)I"⟩, Cond.sameMethod "PostingPlanner$Plan" "PostingPlanner$Group" "seek" "(II)I", Cond.selects RX2 ⟨"PostingPlanner$Plan", "seek", "(II)I"⟩ yX0_seek, Cond.instanceMethod yX0_seek]
def wsX10_next_r2 : List Cond := [Cond.initialized RX0, Cond.code yX0_seek cX0_seek 3 (some .int), Cond.fieldLink RX0 29 "PostingPlanner$Group" "place" "I", Cond.sameField "PostingPlanner$Group" "PostingPlanner$Part" "place" "I", Cond.fieldLink RX0 15 "PostingPlanner$Group" "kind" "I", Cond.fieldLink RX0 25 "PostingPlanner$Group" "there" "J", Cond.methodLink RX0 71 ⟨"PostingPlanner$Group", "seekAll", "(II)I"⟩, Cond.sameMethod "PostingPlanner$Group" "PostingPlanner$Group" "seekAll" "(II)I", Cond.selects RX2 ⟨"PostingPlanner$Group", "seekAll", "(II)I"⟩ yX0_seekAll, Cond.instanceMethod yX0_seekAll, Cond.selects RX3 ⟨"PostingPlanner$Group", "seekAll", "(II)I"⟩ yX0_seekAll, Cond.methodLink RX0 74 ⟨"PostingPlanner$Group", "seekAny", "(II)I"⟩, Cond.sameMethod "PostingPlanner$Group" "PostingPlanner$Group" "seekAny" "(II)I", Cond.selects RX2 ⟨"PostingPlanner$Group", "seekAny", "(II)I"⟩ yX0_seekAny, Cond.instanceMethod yX0_seekAny, Cond.selects RX3 ⟨"PostingPlanner$Group", "seekAny", "(II)I"⟩ yX0_seekAny, Cond.methodLink RX0 77 ⟨"PostingPlanner$Group", "seekSome", "(II)I"⟩, Cond.sameMethod "PostingPlanner$Group" "PostingPlanner$Group" "seekSome" "(II)I", Cond.selects RX2 ⟨"PostingPlanner$Group", "seekSome", "(II)I"⟩ yX0_seekSome, Cond.instanceMethod yX0_seekSome, Cond.selects RX3 ⟨"PostingPlanner$Group", "seekSome", "(II)I"⟩ yX0_seekSome, Cond.static yX10_firstOf, Cond.code yX10_firstOf cX10_firstOf 4 (some .int), Cond.code yX0_seekAll cX0_seekAll 8 (some .int)]
def wsX10_next_r3 : List Cond := [Cond.fieldLink RX0 22 "PostingPlanner$Group" "size" "I", Cond.methodLink RX0 32 ⟨"PostingPlanner$Group", "partAt", "(I)LPostingPlanner$Part;"⟩, Cond.sameMethod "PostingPlanner$Group" "PostingPlanner$Group" "partAt" "(I)LPostingPlanner$Part;", Cond.selects RX2 ⟨"PostingPlanner$Group", "partAt", "(I)LPostingPlanner$Part;"⟩ yX0_partAt, Cond.instanceMethod yX0_partAt, Cond.code yX0_partAt cX0_partAt 2 (some (.object "PostingPlanner$Part")), Cond.fieldLink RX0 9 "PostingPlanner$Group" "parts" "[LPostingPlanner$Part;", Cond.selects RX3 ⟨"PostingPlanner$Group", "partAt", "(I)LPostingPlanner$Part;"⟩ yX0_partAt, Cond.methodLink RX0 84 ⟨"PostingPlanner$Part", "seek", "(II)I"⟩, Cond.sameMethod "PostingPlanner$Part" "PostingPlanner$Part" "seek" "(II)I", Cond.selects RX2 ⟨"PostingPlanner$Part", "seek", "(II)I"⟩ yX0_seek, Cond.selects RX3 ⟨"PostingPlanner$Part", "seek", "(II)I"⟩ yX0_seek, Cond.selects RX4 ⟨"PostingPlanner$Part", "seek", "(II)I"⟩ yX4_seek, Cond.instanceMethod yX4_seek, Cond.initialized RX4, Cond.code yX4_seek cX4_seek 3 (some .int), Cond.fieldLink RX4 35 "PostingPlanner$PlannedLiteral" "place" "I", Cond.sameField "PostingPlanner$PlannedLiteral" "PostingPlanner$Part" "place" "I", Cond.fieldLink RX4 19 "PostingPlanner$PlannedLiteral" "truths" "J", Cond.fieldLink RX4 9 "PostingPlanner$PlannedLiteral" "tally" "LPostingPlanner$Tally;", Cond.fieldLink RX4 42 "PostingPlanner$Tally" "sum" "I", Cond.methodLink RX4 47 yX4_cost, Cond.instanceMethod yX4_cost, Cond.selects RX4 yX4_cost yX4_cost]
def wsX10_next_r4 : List Cond := [Cond.code yX4_cost cX4_cost 4 (some .int), Cond.fieldLink RX4 22 "PostingPlanner$PlannedLiteral" "rank" "I", Cond.sameField "PostingPlanner$PlannedLiteral" "PostingPlanner$Part" "rank" "I", Cond.fieldLink RX4 15 "PostingPlanner$PlannedLiteral" "there" "J", Cond.methodLink RX4 26 yJ13_bitCount_95d88, Cond.static yJ13_bitCount_95d88, Cond.initialized RJ13, Cond.code yJ13_bitCount_95d88 cJ13_bitCount_95d88 2 (some .int), Cond.constantLong RJ13 314 (6148914691236517205), Cond.constantLong RJ13 316 (3689348814741910323), Cond.constantLong RJ13 318 (1085102592571150095), Cond.code yX0_seekAny cX0_seekAny 6 (some .int), Cond.methodLink RX0 60 Lib.Math.min.name, Cond.static Lib.Math.min.name, Cond.code Lib.Math.min.name Lib.Math.min.code 2 (some .int), Cond.code yX0_seekSome cX0_seekSome 6 (some .int), Cond.methodLink RX0 87 ⟨"PostingPlanner$Group", "neededPlace", "()I"⟩, Cond.sameMethod "PostingPlanner$Group" "PostingPlanner$Group" "neededPlace" "()I", Cond.selects RX2 ⟨"PostingPlanner$Group", "neededPlace", "()I"⟩ yX0_neededPlace, Cond.instanceMethod yX0_neededPlace, Cond.code yX0_neededPlace cX0_neededPlace 4 (some .int), Cond.fieldLink RX0 90 "PostingPlanner$Part" "place" "I", Cond.fieldLink RX0 19 "PostingPlanner$Group" "need" "I", Cond.methodLink RX0 91 ⟨"PostingPlanner$Group", "placesUpTo", "(I)I"⟩]
def wsX10_next_r5 : List Cond := [Cond.sameMethod "PostingPlanner$Group" "PostingPlanner$Group" "placesUpTo" "(I)I", Cond.selects RX2 ⟨"PostingPlanner$Group", "placesUpTo", "(I)I"⟩ yX0_placesUpTo, Cond.instanceMethod yX0_placesUpTo, Cond.code yX0_placesUpTo cX0_placesUpTo 5 (some .int), Cond.selects RX3 ⟨"PostingPlanner$Group", "placesUpTo", "(I)I"⟩ yX0_placesUpTo, Cond.selects RX3 ⟨"PostingPlanner$Group", "neededPlace", "()I"⟩ yX0_neededPlace]
def wsX10_next : List Cond := .code yX10_next cX10_next 1 (some .int) :: ((wsX10_next_r1 ++ (wsX10_next_r2 ++ (wsX10_next_r3 ++ (wsX10_next_r4 ++ wsX10_next_r5)))) ++ wsX100 ++ wsX60 ++ wsX20 ++ wsX30 ++ wsX40 ++ wsX80 ++ (vx_atS RX10 94 "java/lang/IllegalStateException" ["java/lang/RuntimeException", "java/lang/Exception"]).filter goodWord)
def wsX10_readings : List Cond := .code yX10_readings cX10_readings 1 (some .int) :: ([.fieldLink RX10 38 "PostingPlanner" "run" "LPostingPlanner$Run;", .fieldLink RX10 162 "PostingPlanner$Run" "tally" "LPostingPlanner$Tally;", .fieldLink RX10 166 "PostingPlanner$Tally" "sum" "I", .methodLink RX10 155 yX10_checkRun, .instanceMethod yX10_checkRun, .selects RX10 yX10_checkRun yX10_checkRun, .initialized RX10, .code yX10_checkRun cX10_checkRun 1 none, .classLink RX10 90 "java/lang/IllegalStateException", .initialized "java/lang/IllegalStateException", .fieldLink RX10 177 "PostingPlanner$Run" "isBegun" "Z"] ++ wsX100 ++ wsX60 ++ wsX80 ++ (vx_atS RX10 94 "java/lang/IllegalStateException" ["java/lang/RuntimeException", "java/lang/Exception"]).filter goodWord)
def wsX11_init_r1 : List Cond := [Cond.methodLink RX11 1 objectInit, Cond.instanceMethod objectInit, Cond.code objectInit ⟨#[0xb1]⟩ 1 none, Cond.arrayClass .boolean, Cond.fieldLink RX11 7 "PostingPlannerModel" "there" "[Z", Cond.arrayClass .int, Cond.fieldLink RX11 13 "PostingPlannerModel" "words" "[I", Cond.fieldLink RX11 17 "PostingPlannerModel" "kinds" "[I", Cond.fieldLink RX11 20 "PostingPlannerModel" "needs" "[I", Cond.fieldLink RX11 23 "PostingPlannerModel" "negated" "[Z", Cond.fieldLink RX11 26 "PostingPlannerModel" "sizes" "[I", Cond.fieldLink RX11 29 "PostingPlannerModel" "literals" "[I", Cond.fieldLink RX11 32 "PostingPlannerModel" "clauseKinds" "[I", Cond.fieldLink RX11 35 "PostingPlannerModel" "clauseNeeds" "[I", Cond.fieldLink RX11 38 "PostingPlannerModel" "clauseSizes" "[I", Cond.fieldLink RX11 41 "PostingPlannerModel" "clauseLiterals" "[I", Cond.fieldLink RX11 44 "PostingPlannerModel" "estimates" "[I", Cond.fieldLink RX11 47 "PostingPlannerModel" "order" "[I", Cond.fieldLink RX11 50 "PostingPlannerModel" "runThere" "[Z", Cond.fieldLink RX11 53 "PostingPlannerModel" "runWords" "[I", Cond.fieldLink RX11 56 "PostingPlannerModel" "runKinds" "[I", Cond.fieldLink RX11 59 "PostingPlannerModel" "runNeeds" "[I", Cond.fieldLink RX11 62 "PostingPlannerModel" "runSizes" "[I", Cond.fieldLink RX11 65 "PostingPlannerModel" "runLiterals" "[I"]
def wsX11_init_r2 : List Cond := [Cond.fieldLink RX11 68 "PostingPlannerModel" "literalPlaces" "[I", Cond.fieldLink RX11 71 "PostingPlannerModel" "clausePlaces" "[I"]
def wsX11_init : List Cond := .code yX11_init cX11_init 1 none :: ((wsX11_init_r1 ++ wsX11_init_r2) ++ wsX110)
def wsX11_thrown : List Cond := .code yX11_thrown cX11_thrown 1 (some .int) :: ([.fieldLink RX11 74 "PostingPlannerModel" "last" "I"] ++ wsX110)
def wsX11_in : List Cond := .code yX11_in cX11_in 3 (some .boolean) :: ([])
def wsX11_goes : List Cond := .code yX11_goes cX11_goes 4 (some .boolean) :: ([.fieldLink RX11 74 "PostingPlannerModel" "last" "I"] ++ wsX110)
def wsX11_isDocument : List Cond := .code yX11_isDocument cX11_isDocument 1 (some .boolean) :: ([.methodLink RX11 78 yX11_in, .static yX11_in, .initialized RX11, .code yX11_in cX11_in 3 (some .boolean)])
def wsX11_put : List Cond := .code yX11_put cX11_put 4 (some .boolean) :: ([.fieldLink RX11 7 "PostingPlannerModel" "there" "[Z", .fieldLink RX11 13 "PostingPlannerModel" "words" "[I", .methodLink RX11 82 yX11_isDocument, .static yX11_isDocument, .initialized RX11, .code yX11_isDocument cX11_isDocument 1 (some .boolean), .methodLink RX11 78 yX11_in, .static yX11_in, .code yX11_in cX11_in 3 (some .boolean), .methodLink RX11 86 yX11_goes, .instanceMethod yX11_goes, .selects RX11 yX11_goes yX11_goes, .code yX11_goes cX11_goes 4 (some .boolean), .fieldLink RX11 74 "PostingPlannerModel" "last" "I"] ++ wsX110)
def wsX11_drop : List Cond := .code yX11_drop cX11_drop 3 (some .boolean) :: ([.fieldLink RX11 7 "PostingPlannerModel" "there" "[Z", .methodLink RX11 82 yX11_isDocument, .static yX11_isDocument, .initialized RX11, .code yX11_isDocument cX11_isDocument 1 (some .boolean), .methodLink RX11 78 yX11_in, .static yX11_in, .code yX11_in cX11_in 3 (some .boolean), .methodLink RX11 86 yX11_goes, .instanceMethod yX11_goes, .selects RX11 yX11_goes yX11_goes, .code yX11_goes cX11_goes 4 (some .boolean), .fieldLink RX11 74 "PostingPlannerModel" "last" "I"] ++ wsX110)
def wsX11_many : List Cond := .code yX11_many cX11_many 3 (some .int) :: ([.fieldLink RX11 7 "PostingPlannerModel" "there" "[Z"] ++ wsX110)
def wsX11_documents : List Cond := .code yX11_documents cX11_documents 1 (some .int) :: ([.fieldLink RX11 74 "PostingPlannerModel" "last" "I", .methodLink RX11 90 yX11_many, .instanceMethod yX11_many, .selects RX11 yX11_many yX11_many, .initialized RX11, .code yX11_many cX11_many 3 (some .int), .fieldLink RX11 7 "PostingPlannerModel" "there" "[Z"] ++ wsX110)
def wsX11_isTrue : List Cond := .code yX11_isTrue cX11_isTrue 2 (some .boolean) :: ([])
def wsX11_count0 : List Cond := .code yX11_count0 cX11_count0 4 (some .int) :: ([.fieldLink RX11 7 "PostingPlannerModel" "there" "[Z", .fieldLink RX11 13 "PostingPlannerModel" "words" "[I", .methodLink RX11 94 yX11_isTrue, .static yX11_isTrue, .initialized RX11, .code yX11_isTrue cX11_isTrue 2 (some .boolean)] ++ wsX110)
def wsX11_count : List Cond := .code yX11_count cX11_count 2 (some .int) :: ([.methodLink RX11 78 yX11_in, .static yX11_in, .initialized RX11, .code yX11_in cX11_in 3 (some .boolean), .methodLink RX11 86 yX11_goes, .instanceMethod yX11_goes, .selects RX11 yX11_goes yX11_goes, .code yX11_goes cX11_goes 4 (some .boolean), .fieldLink RX11 74 "PostingPlannerModel" "last" "I", .methodLink RX11 98 yX11_count0, .instanceMethod yX11_count0, .selects RX11 yX11_count0 yX11_count0, .code yX11_count0 cX11_count0 4 (some .int), .fieldLink RX11 7 "PostingPlannerModel" "there" "[Z", .fieldLink RX11 13 "PostingPlannerModel" "words" "[I", .methodLink RX11 94 yX11_isTrue, .static yX11_isTrue, .code yX11_isTrue cX11_isTrue 2 (some .boolean)] ++ wsX110)
def wsX11_fits : List Cond := .code yX11_fits cX11_fits 3 (some .boolean) :: ([.methodLink RX11 78 yX11_in, .static yX11_in, .initialized RX11, .code yX11_in cX11_in 3 (some .boolean)])
def wsX11_ask : List Cond := .code yX11_ask cX11_ask 4 (some .int) :: ([.fieldLink RX11 105 "PostingPlannerModel" "clauses" "I", .fieldLink RX11 108 "PostingPlannerModel" "kind" "I", .fieldLink RX11 111 "PostingPlannerModel" "need" "I", .methodLink RX11 102 yX11_fits, .static yX11_fits, .initialized RX11, .code yX11_fits cX11_fits 3 (some .boolean), .methodLink RX11 78 yX11_in, .static yX11_in, .code yX11_in cX11_in 3 (some .boolean), .methodLink RX11 86 yX11_goes, .instanceMethod yX11_goes, .selects RX11 yX11_goes yX11_goes, .code yX11_goes cX11_goes 4 (some .boolean), .fieldLink RX11 74 "PostingPlannerModel" "last" "I"] ++ wsX110)
def wsX11_clause : List Cond := .code yX11_clause cX11_clause 4 (some .int) :: ([.fieldLink RX11 105 "PostingPlannerModel" "clauses" "I", .fieldLink RX11 17 "PostingPlannerModel" "kinds" "[I", .fieldLink RX11 20 "PostingPlannerModel" "needs" "[I", .fieldLink RX11 23 "PostingPlannerModel" "negated" "[Z", .fieldLink RX11 26 "PostingPlannerModel" "sizes" "[I", .methodLink RX11 102 yX11_fits, .static yX11_fits, .initialized RX11, .code yX11_fits cX11_fits 3 (some .boolean), .methodLink RX11 78 yX11_in, .static yX11_in, .code yX11_in cX11_in 3 (some .boolean), .methodLink RX11 86 yX11_goes, .instanceMethod yX11_goes, .selects RX11 yX11_goes yX11_goes, .code yX11_goes cX11_goes 4 (some .boolean), .fieldLink RX11 74 "PostingPlannerModel" "last" "I"] ++ wsX110)
def wsX11_literal : List Cond := .code yX11_literal cX11_literal 5 (some .int) :: ([.fieldLink RX11 105 "PostingPlannerModel" "clauses" "I", .fieldLink RX11 26 "PostingPlannerModel" "sizes" "[I", .fieldLink RX11 29 "PostingPlannerModel" "literals" "[I", .methodLink RX11 78 yX11_in, .static yX11_in, .initialized RX11, .code yX11_in cX11_in 3 (some .boolean), .methodLink RX11 86 yX11_goes, .instanceMethod yX11_goes, .selects RX11 yX11_goes yX11_goes, .code yX11_goes cX11_goes 4 (some .boolean), .fieldLink RX11 74 "PostingPlannerModel" "last" "I"] ++ wsX110)
def wsX11_isBy : List Cond := .code yX11_isBy cX11_isBy 4 (some .boolean) :: ([])
def wsX11_isMatch : List Cond := .code yX11_isMatch cX11_isMatch 6 (some .boolean) :: ([.fieldLink RX11 105 "PostingPlannerModel" "clauses" "I", .fieldLink RX11 26 "PostingPlannerModel" "sizes" "[I", .fieldLink RX11 13 "PostingPlannerModel" "words" "[I", .fieldLink RX11 29 "PostingPlannerModel" "literals" "[I", .fieldLink RX11 17 "PostingPlannerModel" "kinds" "[I", .fieldLink RX11 20 "PostingPlannerModel" "needs" "[I", .fieldLink RX11 23 "PostingPlannerModel" "negated" "[Z", .fieldLink RX11 7 "PostingPlannerModel" "there" "[Z", .fieldLink RX11 108 "PostingPlannerModel" "kind" "I", .fieldLink RX11 111 "PostingPlannerModel" "need" "I", .methodLink RX11 94 yX11_isTrue, .static yX11_isTrue, .initialized RX11, .code yX11_isTrue cX11_isTrue 2 (some .boolean), .methodLink RX11 114 yX11_isBy, .static yX11_isBy, .code yX11_isBy cX11_isBy 4 (some .boolean)] ++ wsX110)
def wsX11_matches_r1 : List Cond := [Cond.methodLink RX11 82 yX11_isDocument, Cond.static yX11_isDocument, Cond.initialized RX11, Cond.code yX11_isDocument cX11_isDocument 1 (some .boolean), Cond.methodLink RX11 78 yX11_in, Cond.static yX11_in, Cond.code yX11_in cX11_in 3 (some .boolean), Cond.methodLink RX11 86 yX11_goes, Cond.instanceMethod yX11_goes, Cond.selects RX11 yX11_goes yX11_goes, Cond.code yX11_goes cX11_goes 4 (some .boolean), Cond.fieldLink RX11 74 "PostingPlannerModel" "last" "I", Cond.methodLink RX11 118 yX11_isMatch, Cond.instanceMethod yX11_isMatch, Cond.selects RX11 yX11_isMatch yX11_isMatch, Cond.code yX11_isMatch cX11_isMatch 6 (some .boolean), Cond.fieldLink RX11 105 "PostingPlannerModel" "clauses" "I", Cond.fieldLink RX11 26 "PostingPlannerModel" "sizes" "[I", Cond.fieldLink RX11 13 "PostingPlannerModel" "words" "[I", Cond.fieldLink RX11 29 "PostingPlannerModel" "literals" "[I", Cond.fieldLink RX11 17 "PostingPlannerModel" "kinds" "[I", Cond.fieldLink RX11 20 "PostingPlannerModel" "needs" "[I", Cond.fieldLink RX11 23 "PostingPlannerModel" "negated" "[Z", Cond.fieldLink RX11 7 "PostingPlannerModel" "there" "[Z"]
def wsX11_matches_r2 : List Cond := [Cond.fieldLink RX11 108 "PostingPlannerModel" "kind" "I", Cond.fieldLink RX11 111 "PostingPlannerModel" "need" "I", Cond.methodLink RX11 94 yX11_isTrue, Cond.static yX11_isTrue, Cond.code yX11_isTrue cX11_isTrue 2 (some .boolean), Cond.methodLink RX11 114 yX11_isBy, Cond.static yX11_isBy, Cond.code yX11_isBy cX11_isBy 4 (some .boolean)]
def wsX11_matches : List Cond := .code yX11_matches cX11_matches 2 (some .boolean) :: ((wsX11_matches_r1 ++ wsX11_matches_r2) ++ wsX110)
def wsX11_hits : List Cond := .code yX11_hits cX11_hits 3 (some .int) :: ([.fieldLink RX11 74 "PostingPlannerModel" "last" "I", .methodLink RX11 118 yX11_isMatch, .instanceMethod yX11_isMatch, .selects RX11 yX11_isMatch yX11_isMatch, .initialized RX11, .code yX11_isMatch cX11_isMatch 6 (some .boolean), .fieldLink RX11 105 "PostingPlannerModel" "clauses" "I", .fieldLink RX11 26 "PostingPlannerModel" "sizes" "[I", .fieldLink RX11 13 "PostingPlannerModel" "words" "[I", .fieldLink RX11 29 "PostingPlannerModel" "literals" "[I", .fieldLink RX11 17 "PostingPlannerModel" "kinds" "[I", .fieldLink RX11 20 "PostingPlannerModel" "needs" "[I", .fieldLink RX11 23 "PostingPlannerModel" "negated" "[Z", .fieldLink RX11 7 "PostingPlannerModel" "there" "[Z", .fieldLink RX11 108 "PostingPlannerModel" "kind" "I", .fieldLink RX11 111 "PostingPlannerModel" "need" "I", .methodLink RX11 94 yX11_isTrue, .static yX11_isTrue, .code yX11_isTrue cX11_isTrue 2 (some .boolean), .methodLink RX11 114 yX11_isBy, .static yX11_isBy, .code yX11_isBy cX11_isBy 4 (some .boolean)] ++ wsX110)
def wsX11_some : List Cond := .code yX11_some cX11_some 2 (some .int) :: ([])
def wsX11_plainly : List Cond := .code yX11_plainly cX11_plainly 6 none :: ([.fieldLink RX11 17 "PostingPlannerModel" "kinds" "[I", .fieldLink RX11 20 "PostingPlannerModel" "needs" "[I", .fieldLink RX11 38 "PostingPlannerModel" "clauseSizes" "[I", .fieldLink RX11 26 "PostingPlannerModel" "sizes" "[I", .fieldLink RX11 29 "PostingPlannerModel" "literals" "[I", .fieldLink RX11 41 "PostingPlannerModel" "clauseLiterals" "[I", .fieldLink RX11 23 "PostingPlannerModel" "negated" "[Z", .fieldLink RX11 32 "PostingPlannerModel" "clauseKinds" "[I", .fieldLink RX11 35 "PostingPlannerModel" "clauseNeeds" "[I", .methodLink RX11 121 yX11_some, .static yX11_some, .initialized RX11, .code yX11_some cX11_some 2 (some .int)] ++ wsX110)
def wsX11_hasAhead : List Cond := .code yX11_hasAhead cX11_hasAhead 6 (some .boolean) :: ([.fieldLink RX11 41 "PostingPlannerModel" "clauseLiterals" "[I"] ++ wsX110)
def wsX11_thins : List Cond := .code yX11_thins cX11_thins 6 none :: ([.fieldLink RX11 38 "PostingPlannerModel" "clauseSizes" "[I", .fieldLink RX11 41 "PostingPlannerModel" "clauseLiterals" "[I", .fieldLink RX11 32 "PostingPlannerModel" "clauseKinds" "[I", .methodLink RX11 125 yX11_hasAhead, .instanceMethod yX11_hasAhead, .selects RX11 yX11_hasAhead yX11_hasAhead, .initialized RX11, .code yX11_hasAhead cX11_hasAhead 6 (some .boolean)] ++ wsX110)
def wsX11_isAhead : List Cond := .code yX11_isAhead cX11_isAhead 5 (some .boolean) :: ([.methodLink RX11 98 yX11_count0, .instanceMethod yX11_count0, .selects RX11 yX11_count0 yX11_count0, .initialized RX11, .code yX11_count0 cX11_count0 4 (some .int), .fieldLink RX11 7 "PostingPlannerModel" "there" "[Z", .fieldLink RX11 13 "PostingPlannerModel" "words" "[I", .methodLink RX11 94 yX11_isTrue, .static yX11_isTrue, .code yX11_isTrue cX11_isTrue 2 (some .boolean)] ++ wsX110)
def wsX11_sorts : List Cond := .code yX11_sorts cX11_sorts 5 none :: ([.fieldLink RX11 38 "PostingPlannerModel" "clauseSizes" "[I", .fieldLink RX11 41 "PostingPlannerModel" "clauseLiterals" "[I", .methodLink RX11 128 yX11_isAhead, .instanceMethod yX11_isAhead, .selects RX11 yX11_isAhead yX11_isAhead, .initialized RX11, .code yX11_isAhead cX11_isAhead 5 (some .boolean), .methodLink RX11 98 yX11_count0, .instanceMethod yX11_count0, .selects RX11 yX11_count0 yX11_count0, .code yX11_count0 cX11_count0 4 (some .int), .fieldLink RX11 7 "PostingPlannerModel" "there" "[Z", .fieldLink RX11 13 "PostingPlannerModel" "words" "[I", .methodLink RX11 94 yX11_isTrue, .static yX11_isTrue, .code yX11_isTrue cX11_isTrue 2 (some .boolean)] ++ wsX110)
def wsX11_estimated : List Cond := .code yX11_estimated cX11_estimated 6 (some .int) :: ([.methodLink RX11 90 yX11_many, .instanceMethod yX11_many, .selects RX11 yX11_many yX11_many, .initialized RX11, .code yX11_many cX11_many 3 (some .int), .fieldLink RX11 7 "PostingPlannerModel" "there" "[Z"] ++ wsX110)
def wsX11_estimates : List Cond := .code yX11_estimates cX11_estimates 6 none :: ([.fieldLink RX11 38 "PostingPlannerModel" "clauseSizes" "[I", .fieldLink RX11 41 "PostingPlannerModel" "clauseLiterals" "[I", .fieldLink RX11 44 "PostingPlannerModel" "estimates" "[I", .fieldLink RX11 32 "PostingPlannerModel" "clauseKinds" "[I", .fieldLink RX11 35 "PostingPlannerModel" "clauseNeeds" "[I", .methodLink RX11 98 yX11_count0, .instanceMethod yX11_count0, .selects RX11 yX11_count0 yX11_count0, .initialized RX11, .code yX11_count0 cX11_count0 4 (some .int), .fieldLink RX11 7 "PostingPlannerModel" "there" "[Z", .fieldLink RX11 13 "PostingPlannerModel" "words" "[I", .methodLink RX11 94 yX11_isTrue, .static yX11_isTrue, .code yX11_isTrue cX11_isTrue 2 (some .boolean), .methodLink RX11 131 yX11_estimated, .instanceMethod yX11_estimated, .selects RX11 yX11_estimated yX11_estimated, .code yX11_estimated cX11_estimated 6 (some .int), .methodLink RX11 90 yX11_many, .instanceMethod yX11_many, .selects RX11 yX11_many yX11_many, .code yX11_many cX11_many 3 (some .int)] ++ wsX110)
def wsX11_makes_r1 : List Cond := [Cond.fieldLink RX11 108 "PostingPlannerModel" "kind" "I", Cond.fieldLink RX11 135 "PostingPlannerModel" "planKind" "I", Cond.fieldLink RX11 111 "PostingPlannerModel" "need" "I", Cond.fieldLink RX11 138 "PostingPlannerModel" "planNeed" "I", Cond.fieldLink RX11 141 "PostingPlannerModel" "planSize" "I", Cond.fieldLink RX11 105 "PostingPlannerModel" "clauses" "I", Cond.fieldLink RX11 32 "PostingPlannerModel" "clauseKinds" "[I", Cond.fieldLink RX11 47 "PostingPlannerModel" "order" "[I", Cond.fieldLink RX11 44 "PostingPlannerModel" "estimates" "[I", Cond.methodLink RX11 144 yX11_plainly, Cond.instanceMethod yX11_plainly, Cond.selects RX11 yX11_plainly yX11_plainly, Cond.initialized RX11, Cond.code yX11_plainly cX11_plainly 6 none, Cond.fieldLink RX11 17 "PostingPlannerModel" "kinds" "[I", Cond.fieldLink RX11 20 "PostingPlannerModel" "needs" "[I", Cond.fieldLink RX11 38 "PostingPlannerModel" "clauseSizes" "[I", Cond.fieldLink RX11 26 "PostingPlannerModel" "sizes" "[I", Cond.fieldLink RX11 29 "PostingPlannerModel" "literals" "[I", Cond.fieldLink RX11 41 "PostingPlannerModel" "clauseLiterals" "[I", Cond.fieldLink RX11 23 "PostingPlannerModel" "negated" "[Z", Cond.fieldLink RX11 35 "PostingPlannerModel" "clauseNeeds" "[I", Cond.methodLink RX11 121 yX11_some, Cond.static yX11_some]
def wsX11_makes_r2 : List Cond := [Cond.code yX11_some cX11_some 2 (some .int), Cond.methodLink RX11 78 yX11_in, Cond.static yX11_in, Cond.code yX11_in cX11_in 3 (some .boolean), Cond.methodLink RX11 148 yX11_thins, Cond.instanceMethod yX11_thins, Cond.selects RX11 yX11_thins yX11_thins, Cond.code yX11_thins cX11_thins 6 none, Cond.methodLink RX11 125 yX11_hasAhead, Cond.instanceMethod yX11_hasAhead, Cond.selects RX11 yX11_hasAhead yX11_hasAhead, Cond.code yX11_hasAhead cX11_hasAhead 6 (some .boolean), Cond.methodLink RX11 151 yX11_sorts, Cond.instanceMethod yX11_sorts, Cond.selects RX11 yX11_sorts yX11_sorts, Cond.code yX11_sorts cX11_sorts 5 none, Cond.methodLink RX11 128 yX11_isAhead, Cond.instanceMethod yX11_isAhead, Cond.selects RX11 yX11_isAhead yX11_isAhead, Cond.code yX11_isAhead cX11_isAhead 5 (some .boolean), Cond.methodLink RX11 98 yX11_count0, Cond.instanceMethod yX11_count0, Cond.selects RX11 yX11_count0 yX11_count0, Cond.code yX11_count0 cX11_count0 4 (some .int)]
def wsX11_makes_r3 : List Cond := [Cond.fieldLink RX11 7 "PostingPlannerModel" "there" "[Z", Cond.fieldLink RX11 13 "PostingPlannerModel" "words" "[I", Cond.methodLink RX11 94 yX11_isTrue, Cond.static yX11_isTrue, Cond.code yX11_isTrue cX11_isTrue 2 (some .boolean), Cond.methodLink RX11 154 yX11_estimates, Cond.instanceMethod yX11_estimates, Cond.selects RX11 yX11_estimates yX11_estimates, Cond.code yX11_estimates cX11_estimates 6 none, Cond.methodLink RX11 131 yX11_estimated, Cond.instanceMethod yX11_estimated, Cond.selects RX11 yX11_estimated yX11_estimated, Cond.code yX11_estimated cX11_estimated 6 (some .int), Cond.methodLink RX11 90 yX11_many, Cond.instanceMethod yX11_many, Cond.selects RX11 yX11_many yX11_many, Cond.code yX11_many cX11_many 3 (some .int)]
def wsX11_makes : List Cond := .code yX11_makes cX11_makes 6 none :: ((wsX11_makes_r1 ++ (wsX11_makes_r2 ++ wsX11_makes_r3)) ++ wsX110)
def wsX11_planEstimate : List Cond := .code yX11_planEstimate cX11_planEstimate 4 (some .int) :: ([.fieldLink RX11 141 "PostingPlannerModel" "planSize" "I", .fieldLink RX11 44 "PostingPlannerModel" "estimates" "[I", .fieldLink RX11 47 "PostingPlannerModel" "order" "[I", .fieldLink RX11 135 "PostingPlannerModel" "planKind" "I", .fieldLink RX11 138 "PostingPlannerModel" "planNeed" "I", .methodLink RX11 131 yX11_estimated, .instanceMethod yX11_estimated, .selects RX11 yX11_estimated yX11_estimated, .initialized RX11, .code yX11_estimated cX11_estimated 6 (some .int), .methodLink RX11 90 yX11_many, .instanceMethod yX11_many, .selects RX11 yX11_many yX11_many, .code yX11_many cX11_many 3 (some .int), .fieldLink RX11 7 "PostingPlannerModel" "there" "[Z"] ++ wsX110)
def wsX11_planKind_r1 : List Cond := [Cond.fieldLink RX11 74 "PostingPlannerModel" "last" "I", Cond.fieldLink RX11 135 "PostingPlannerModel" "planKind" "I", Cond.methodLink RX11 156 yX11_makes, Cond.instanceMethod yX11_makes, Cond.selects RX11 yX11_makes yX11_makes, Cond.initialized RX11, Cond.code yX11_makes cX11_makes 6 none, Cond.fieldLink RX11 108 "PostingPlannerModel" "kind" "I", Cond.fieldLink RX11 111 "PostingPlannerModel" "need" "I", Cond.fieldLink RX11 138 "PostingPlannerModel" "planNeed" "I", Cond.fieldLink RX11 141 "PostingPlannerModel" "planSize" "I", Cond.fieldLink RX11 105 "PostingPlannerModel" "clauses" "I", Cond.fieldLink RX11 32 "PostingPlannerModel" "clauseKinds" "[I", Cond.fieldLink RX11 47 "PostingPlannerModel" "order" "[I", Cond.fieldLink RX11 44 "PostingPlannerModel" "estimates" "[I", Cond.methodLink RX11 144 yX11_plainly, Cond.instanceMethod yX11_plainly, Cond.selects RX11 yX11_plainly yX11_plainly, Cond.code yX11_plainly cX11_plainly 6 none, Cond.fieldLink RX11 17 "PostingPlannerModel" "kinds" "[I", Cond.fieldLink RX11 20 "PostingPlannerModel" "needs" "[I", Cond.fieldLink RX11 38 "PostingPlannerModel" "clauseSizes" "[I", Cond.fieldLink RX11 26 "PostingPlannerModel" "sizes" "[I", Cond.fieldLink RX11 29 "PostingPlannerModel" "literals" "[I"]
def wsX11_planKind_r2 : List Cond := [Cond.fieldLink RX11 41 "PostingPlannerModel" "clauseLiterals" "[I", Cond.fieldLink RX11 23 "PostingPlannerModel" "negated" "[Z", Cond.fieldLink RX11 35 "PostingPlannerModel" "clauseNeeds" "[I", Cond.methodLink RX11 121 yX11_some, Cond.static yX11_some, Cond.code yX11_some cX11_some 2 (some .int), Cond.methodLink RX11 78 yX11_in, Cond.static yX11_in, Cond.code yX11_in cX11_in 3 (some .boolean), Cond.methodLink RX11 148 yX11_thins, Cond.instanceMethod yX11_thins, Cond.selects RX11 yX11_thins yX11_thins, Cond.code yX11_thins cX11_thins 6 none, Cond.methodLink RX11 125 yX11_hasAhead, Cond.instanceMethod yX11_hasAhead, Cond.selects RX11 yX11_hasAhead yX11_hasAhead, Cond.code yX11_hasAhead cX11_hasAhead 6 (some .boolean), Cond.methodLink RX11 151 yX11_sorts, Cond.instanceMethod yX11_sorts, Cond.selects RX11 yX11_sorts yX11_sorts, Cond.code yX11_sorts cX11_sorts 5 none, Cond.methodLink RX11 128 yX11_isAhead, Cond.instanceMethod yX11_isAhead, Cond.selects RX11 yX11_isAhead yX11_isAhead]
def wsX11_planKind_r3 : List Cond := [Cond.code yX11_isAhead cX11_isAhead 5 (some .boolean), Cond.methodLink RX11 98 yX11_count0, Cond.instanceMethod yX11_count0, Cond.selects RX11 yX11_count0 yX11_count0, Cond.code yX11_count0 cX11_count0 4 (some .int), Cond.fieldLink RX11 7 "PostingPlannerModel" "there" "[Z", Cond.fieldLink RX11 13 "PostingPlannerModel" "words" "[I", Cond.methodLink RX11 94 yX11_isTrue, Cond.static yX11_isTrue, Cond.code yX11_isTrue cX11_isTrue 2 (some .boolean), Cond.methodLink RX11 154 yX11_estimates, Cond.instanceMethod yX11_estimates, Cond.selects RX11 yX11_estimates yX11_estimates, Cond.code yX11_estimates cX11_estimates 6 none, Cond.methodLink RX11 131 yX11_estimated, Cond.instanceMethod yX11_estimated, Cond.selects RX11 yX11_estimated yX11_estimated, Cond.code yX11_estimated cX11_estimated 6 (some .int), Cond.methodLink RX11 90 yX11_many, Cond.instanceMethod yX11_many, Cond.selects RX11 yX11_many yX11_many, Cond.code yX11_many cX11_many 3 (some .int)]
def wsX11_planKind : List Cond := .code yX11_planKind cX11_planKind 1 (some .int) :: ((wsX11_planKind_r1 ++ (wsX11_planKind_r2 ++ wsX11_planKind_r3)) ++ wsX110)
def wsX11_planNeed_r1 : List Cond := [Cond.fieldLink RX11 74 "PostingPlannerModel" "last" "I", Cond.fieldLink RX11 138 "PostingPlannerModel" "planNeed" "I", Cond.methodLink RX11 156 yX11_makes, Cond.instanceMethod yX11_makes, Cond.selects RX11 yX11_makes yX11_makes, Cond.initialized RX11, Cond.code yX11_makes cX11_makes 6 none, Cond.fieldLink RX11 108 "PostingPlannerModel" "kind" "I", Cond.fieldLink RX11 135 "PostingPlannerModel" "planKind" "I", Cond.fieldLink RX11 111 "PostingPlannerModel" "need" "I", Cond.fieldLink RX11 141 "PostingPlannerModel" "planSize" "I", Cond.fieldLink RX11 105 "PostingPlannerModel" "clauses" "I", Cond.fieldLink RX11 32 "PostingPlannerModel" "clauseKinds" "[I", Cond.fieldLink RX11 47 "PostingPlannerModel" "order" "[I", Cond.fieldLink RX11 44 "PostingPlannerModel" "estimates" "[I", Cond.methodLink RX11 144 yX11_plainly, Cond.instanceMethod yX11_plainly, Cond.selects RX11 yX11_plainly yX11_plainly, Cond.code yX11_plainly cX11_plainly 6 none, Cond.fieldLink RX11 17 "PostingPlannerModel" "kinds" "[I", Cond.fieldLink RX11 20 "PostingPlannerModel" "needs" "[I", Cond.fieldLink RX11 38 "PostingPlannerModel" "clauseSizes" "[I", Cond.fieldLink RX11 26 "PostingPlannerModel" "sizes" "[I", Cond.fieldLink RX11 29 "PostingPlannerModel" "literals" "[I"]
def wsX11_planNeed_r2 : List Cond := [Cond.fieldLink RX11 41 "PostingPlannerModel" "clauseLiterals" "[I", Cond.fieldLink RX11 23 "PostingPlannerModel" "negated" "[Z", Cond.fieldLink RX11 35 "PostingPlannerModel" "clauseNeeds" "[I", Cond.methodLink RX11 121 yX11_some, Cond.static yX11_some, Cond.code yX11_some cX11_some 2 (some .int), Cond.methodLink RX11 78 yX11_in, Cond.static yX11_in, Cond.code yX11_in cX11_in 3 (some .boolean), Cond.methodLink RX11 148 yX11_thins, Cond.instanceMethod yX11_thins, Cond.selects RX11 yX11_thins yX11_thins, Cond.code yX11_thins cX11_thins 6 none, Cond.methodLink RX11 125 yX11_hasAhead, Cond.instanceMethod yX11_hasAhead, Cond.selects RX11 yX11_hasAhead yX11_hasAhead, Cond.code yX11_hasAhead cX11_hasAhead 6 (some .boolean), Cond.methodLink RX11 151 yX11_sorts, Cond.instanceMethod yX11_sorts, Cond.selects RX11 yX11_sorts yX11_sorts, Cond.code yX11_sorts cX11_sorts 5 none, Cond.methodLink RX11 128 yX11_isAhead, Cond.instanceMethod yX11_isAhead, Cond.selects RX11 yX11_isAhead yX11_isAhead]
def wsX11_planNeed_r3 : List Cond := [Cond.code yX11_isAhead cX11_isAhead 5 (some .boolean), Cond.methodLink RX11 98 yX11_count0, Cond.instanceMethod yX11_count0, Cond.selects RX11 yX11_count0 yX11_count0, Cond.code yX11_count0 cX11_count0 4 (some .int), Cond.fieldLink RX11 7 "PostingPlannerModel" "there" "[Z", Cond.fieldLink RX11 13 "PostingPlannerModel" "words" "[I", Cond.methodLink RX11 94 yX11_isTrue, Cond.static yX11_isTrue, Cond.code yX11_isTrue cX11_isTrue 2 (some .boolean), Cond.methodLink RX11 154 yX11_estimates, Cond.instanceMethod yX11_estimates, Cond.selects RX11 yX11_estimates yX11_estimates, Cond.code yX11_estimates cX11_estimates 6 none, Cond.methodLink RX11 131 yX11_estimated, Cond.instanceMethod yX11_estimated, Cond.selects RX11 yX11_estimated yX11_estimated, Cond.code yX11_estimated cX11_estimated 6 (some .int), Cond.methodLink RX11 90 yX11_many, Cond.instanceMethod yX11_many, Cond.selects RX11 yX11_many yX11_many, Cond.code yX11_many cX11_many 3 (some .int)]
def wsX11_planNeed : List Cond := .code yX11_planNeed cX11_planNeed 1 (some .int) :: ((wsX11_planNeed_r1 ++ (wsX11_planNeed_r2 ++ wsX11_planNeed_r3)) ++ wsX110)
def wsX11_planSize_r1 : List Cond := [Cond.fieldLink RX11 74 "PostingPlannerModel" "last" "I", Cond.fieldLink RX11 141 "PostingPlannerModel" "planSize" "I", Cond.methodLink RX11 156 yX11_makes, Cond.instanceMethod yX11_makes, Cond.selects RX11 yX11_makes yX11_makes, Cond.initialized RX11, Cond.code yX11_makes cX11_makes 6 none, Cond.fieldLink RX11 108 "PostingPlannerModel" "kind" "I", Cond.fieldLink RX11 135 "PostingPlannerModel" "planKind" "I", Cond.fieldLink RX11 111 "PostingPlannerModel" "need" "I", Cond.fieldLink RX11 138 "PostingPlannerModel" "planNeed" "I", Cond.fieldLink RX11 105 "PostingPlannerModel" "clauses" "I", Cond.fieldLink RX11 32 "PostingPlannerModel" "clauseKinds" "[I", Cond.fieldLink RX11 47 "PostingPlannerModel" "order" "[I", Cond.fieldLink RX11 44 "PostingPlannerModel" "estimates" "[I", Cond.methodLink RX11 144 yX11_plainly, Cond.instanceMethod yX11_plainly, Cond.selects RX11 yX11_plainly yX11_plainly, Cond.code yX11_plainly cX11_plainly 6 none, Cond.fieldLink RX11 17 "PostingPlannerModel" "kinds" "[I", Cond.fieldLink RX11 20 "PostingPlannerModel" "needs" "[I", Cond.fieldLink RX11 38 "PostingPlannerModel" "clauseSizes" "[I", Cond.fieldLink RX11 26 "PostingPlannerModel" "sizes" "[I", Cond.fieldLink RX11 29 "PostingPlannerModel" "literals" "[I"]
def wsX11_planSize_r2 : List Cond := [Cond.fieldLink RX11 41 "PostingPlannerModel" "clauseLiterals" "[I", Cond.fieldLink RX11 23 "PostingPlannerModel" "negated" "[Z", Cond.fieldLink RX11 35 "PostingPlannerModel" "clauseNeeds" "[I", Cond.methodLink RX11 121 yX11_some, Cond.static yX11_some, Cond.code yX11_some cX11_some 2 (some .int), Cond.methodLink RX11 78 yX11_in, Cond.static yX11_in, Cond.code yX11_in cX11_in 3 (some .boolean), Cond.methodLink RX11 148 yX11_thins, Cond.instanceMethod yX11_thins, Cond.selects RX11 yX11_thins yX11_thins, Cond.code yX11_thins cX11_thins 6 none, Cond.methodLink RX11 125 yX11_hasAhead, Cond.instanceMethod yX11_hasAhead, Cond.selects RX11 yX11_hasAhead yX11_hasAhead, Cond.code yX11_hasAhead cX11_hasAhead 6 (some .boolean), Cond.methodLink RX11 151 yX11_sorts, Cond.instanceMethod yX11_sorts, Cond.selects RX11 yX11_sorts yX11_sorts, Cond.code yX11_sorts cX11_sorts 5 none, Cond.methodLink RX11 128 yX11_isAhead, Cond.instanceMethod yX11_isAhead, Cond.selects RX11 yX11_isAhead yX11_isAhead]
def wsX11_planSize_r3 : List Cond := [Cond.code yX11_isAhead cX11_isAhead 5 (some .boolean), Cond.methodLink RX11 98 yX11_count0, Cond.instanceMethod yX11_count0, Cond.selects RX11 yX11_count0 yX11_count0, Cond.code yX11_count0 cX11_count0 4 (some .int), Cond.fieldLink RX11 7 "PostingPlannerModel" "there" "[Z", Cond.fieldLink RX11 13 "PostingPlannerModel" "words" "[I", Cond.methodLink RX11 94 yX11_isTrue, Cond.static yX11_isTrue, Cond.code yX11_isTrue cX11_isTrue 2 (some .boolean), Cond.methodLink RX11 154 yX11_estimates, Cond.instanceMethod yX11_estimates, Cond.selects RX11 yX11_estimates yX11_estimates, Cond.code yX11_estimates cX11_estimates 6 none, Cond.methodLink RX11 131 yX11_estimated, Cond.instanceMethod yX11_estimated, Cond.selects RX11 yX11_estimated yX11_estimated, Cond.code yX11_estimated cX11_estimated 6 (some .int), Cond.methodLink RX11 90 yX11_many, Cond.instanceMethod yX11_many, Cond.selects RX11 yX11_many yX11_many, Cond.code yX11_many cX11_many 3 (some .int)]
def wsX11_planSize : List Cond := .code yX11_planSize cX11_planSize 1 (some .int) :: ((wsX11_planSize_r1 ++ (wsX11_planSize_r2 ++ wsX11_planSize_r3)) ++ wsX110)
def wsX11_estimate_r1 : List Cond := [Cond.fieldLink RX11 74 "PostingPlannerModel" "last" "I", Cond.methodLink RX11 156 yX11_makes, Cond.instanceMethod yX11_makes, Cond.selects RX11 yX11_makes yX11_makes, Cond.initialized RX11, Cond.code yX11_makes cX11_makes 6 none, Cond.fieldLink RX11 108 "PostingPlannerModel" "kind" "I", Cond.fieldLink RX11 135 "PostingPlannerModel" "planKind" "I", Cond.fieldLink RX11 111 "PostingPlannerModel" "need" "I", Cond.fieldLink RX11 138 "PostingPlannerModel" "planNeed" "I", Cond.fieldLink RX11 141 "PostingPlannerModel" "planSize" "I", Cond.fieldLink RX11 105 "PostingPlannerModel" "clauses" "I", Cond.fieldLink RX11 32 "PostingPlannerModel" "clauseKinds" "[I", Cond.fieldLink RX11 47 "PostingPlannerModel" "order" "[I", Cond.fieldLink RX11 44 "PostingPlannerModel" "estimates" "[I", Cond.methodLink RX11 144 yX11_plainly, Cond.instanceMethod yX11_plainly, Cond.selects RX11 yX11_plainly yX11_plainly, Cond.code yX11_plainly cX11_plainly 6 none, Cond.fieldLink RX11 17 "PostingPlannerModel" "kinds" "[I", Cond.fieldLink RX11 20 "PostingPlannerModel" "needs" "[I", Cond.fieldLink RX11 38 "PostingPlannerModel" "clauseSizes" "[I", Cond.fieldLink RX11 26 "PostingPlannerModel" "sizes" "[I", Cond.fieldLink RX11 29 "PostingPlannerModel" "literals" "[I"]
def wsX11_estimate_r2 : List Cond := [Cond.fieldLink RX11 41 "PostingPlannerModel" "clauseLiterals" "[I", Cond.fieldLink RX11 23 "PostingPlannerModel" "negated" "[Z", Cond.fieldLink RX11 35 "PostingPlannerModel" "clauseNeeds" "[I", Cond.methodLink RX11 121 yX11_some, Cond.static yX11_some, Cond.code yX11_some cX11_some 2 (some .int), Cond.methodLink RX11 78 yX11_in, Cond.static yX11_in, Cond.code yX11_in cX11_in 3 (some .boolean), Cond.methodLink RX11 148 yX11_thins, Cond.instanceMethod yX11_thins, Cond.selects RX11 yX11_thins yX11_thins, Cond.code yX11_thins cX11_thins 6 none, Cond.methodLink RX11 125 yX11_hasAhead, Cond.instanceMethod yX11_hasAhead, Cond.selects RX11 yX11_hasAhead yX11_hasAhead, Cond.code yX11_hasAhead cX11_hasAhead 6 (some .boolean), Cond.methodLink RX11 151 yX11_sorts, Cond.instanceMethod yX11_sorts, Cond.selects RX11 yX11_sorts yX11_sorts, Cond.code yX11_sorts cX11_sorts 5 none, Cond.methodLink RX11 128 yX11_isAhead, Cond.instanceMethod yX11_isAhead, Cond.selects RX11 yX11_isAhead yX11_isAhead]
def wsX11_estimate_r3 : List Cond := [Cond.code yX11_isAhead cX11_isAhead 5 (some .boolean), Cond.methodLink RX11 98 yX11_count0, Cond.instanceMethod yX11_count0, Cond.selects RX11 yX11_count0 yX11_count0, Cond.code yX11_count0 cX11_count0 4 (some .int), Cond.fieldLink RX11 7 "PostingPlannerModel" "there" "[Z", Cond.fieldLink RX11 13 "PostingPlannerModel" "words" "[I", Cond.methodLink RX11 94 yX11_isTrue, Cond.static yX11_isTrue, Cond.code yX11_isTrue cX11_isTrue 2 (some .boolean), Cond.methodLink RX11 154 yX11_estimates, Cond.instanceMethod yX11_estimates, Cond.selects RX11 yX11_estimates yX11_estimates, Cond.code yX11_estimates cX11_estimates 6 none, Cond.methodLink RX11 131 yX11_estimated, Cond.instanceMethod yX11_estimated, Cond.selects RX11 yX11_estimated yX11_estimated, Cond.code yX11_estimated cX11_estimated 6 (some .int), Cond.methodLink RX11 90 yX11_many, Cond.instanceMethod yX11_many, Cond.selects RX11 yX11_many yX11_many, Cond.code yX11_many cX11_many 3 (some .int), Cond.methodLink RX11 159 yX11_planEstimate, Cond.instanceMethod yX11_planEstimate]
def wsX11_estimate_r4 : List Cond := [Cond.selects RX11 yX11_planEstimate yX11_planEstimate, Cond.code yX11_planEstimate cX11_planEstimate 4 (some .int)]
def wsX11_estimate : List Cond := .code yX11_estimate cX11_estimate 1 (some .int) :: ((wsX11_estimate_r1 ++ (wsX11_estimate_r2 ++ (wsX11_estimate_r3 ++ wsX11_estimate_r4))) ++ wsX110)
def wsX11_isPlace_r1 : List Cond := [Cond.fieldLink RX11 141 "PostingPlannerModel" "planSize" "I", Cond.methodLink RX11 156 yX11_makes, Cond.instanceMethod yX11_makes, Cond.selects RX11 yX11_makes yX11_makes, Cond.initialized RX11, Cond.code yX11_makes cX11_makes 6 none, Cond.fieldLink RX11 108 "PostingPlannerModel" "kind" "I", Cond.fieldLink RX11 135 "PostingPlannerModel" "planKind" "I", Cond.fieldLink RX11 111 "PostingPlannerModel" "need" "I", Cond.fieldLink RX11 138 "PostingPlannerModel" "planNeed" "I", Cond.fieldLink RX11 105 "PostingPlannerModel" "clauses" "I", Cond.fieldLink RX11 32 "PostingPlannerModel" "clauseKinds" "[I", Cond.fieldLink RX11 47 "PostingPlannerModel" "order" "[I", Cond.fieldLink RX11 44 "PostingPlannerModel" "estimates" "[I", Cond.methodLink RX11 144 yX11_plainly, Cond.instanceMethod yX11_plainly, Cond.selects RX11 yX11_plainly yX11_plainly, Cond.code yX11_plainly cX11_plainly 6 none, Cond.fieldLink RX11 17 "PostingPlannerModel" "kinds" "[I", Cond.fieldLink RX11 20 "PostingPlannerModel" "needs" "[I", Cond.fieldLink RX11 38 "PostingPlannerModel" "clauseSizes" "[I", Cond.fieldLink RX11 26 "PostingPlannerModel" "sizes" "[I", Cond.fieldLink RX11 29 "PostingPlannerModel" "literals" "[I", Cond.fieldLink RX11 41 "PostingPlannerModel" "clauseLiterals" "[I"]
def wsX11_isPlace_r2 : List Cond := [Cond.fieldLink RX11 23 "PostingPlannerModel" "negated" "[Z", Cond.fieldLink RX11 35 "PostingPlannerModel" "clauseNeeds" "[I", Cond.methodLink RX11 121 yX11_some, Cond.static yX11_some, Cond.code yX11_some cX11_some 2 (some .int), Cond.methodLink RX11 78 yX11_in, Cond.static yX11_in, Cond.code yX11_in cX11_in 3 (some .boolean), Cond.methodLink RX11 148 yX11_thins, Cond.instanceMethod yX11_thins, Cond.selects RX11 yX11_thins yX11_thins, Cond.code yX11_thins cX11_thins 6 none, Cond.methodLink RX11 125 yX11_hasAhead, Cond.instanceMethod yX11_hasAhead, Cond.selects RX11 yX11_hasAhead yX11_hasAhead, Cond.code yX11_hasAhead cX11_hasAhead 6 (some .boolean), Cond.methodLink RX11 151 yX11_sorts, Cond.instanceMethod yX11_sorts, Cond.selects RX11 yX11_sorts yX11_sorts, Cond.code yX11_sorts cX11_sorts 5 none, Cond.methodLink RX11 128 yX11_isAhead, Cond.instanceMethod yX11_isAhead, Cond.selects RX11 yX11_isAhead yX11_isAhead, Cond.code yX11_isAhead cX11_isAhead 5 (some .boolean)]
def wsX11_isPlace_r3 : List Cond := [Cond.methodLink RX11 98 yX11_count0, Cond.instanceMethod yX11_count0, Cond.selects RX11 yX11_count0 yX11_count0, Cond.code yX11_count0 cX11_count0 4 (some .int), Cond.fieldLink RX11 7 "PostingPlannerModel" "there" "[Z", Cond.fieldLink RX11 13 "PostingPlannerModel" "words" "[I", Cond.methodLink RX11 94 yX11_isTrue, Cond.static yX11_isTrue, Cond.code yX11_isTrue cX11_isTrue 2 (some .boolean), Cond.methodLink RX11 154 yX11_estimates, Cond.instanceMethod yX11_estimates, Cond.selects RX11 yX11_estimates yX11_estimates, Cond.code yX11_estimates cX11_estimates 6 none, Cond.methodLink RX11 131 yX11_estimated, Cond.instanceMethod yX11_estimated, Cond.selects RX11 yX11_estimated yX11_estimated, Cond.code yX11_estimated cX11_estimated 6 (some .int), Cond.methodLink RX11 90 yX11_many, Cond.instanceMethod yX11_many, Cond.selects RX11 yX11_many yX11_many, Cond.code yX11_many cX11_many 3 (some .int), Cond.methodLink RX11 86 yX11_goes, Cond.instanceMethod yX11_goes, Cond.selects RX11 yX11_goes yX11_goes]
def wsX11_isPlace_r4 : List Cond := [Cond.code yX11_goes cX11_goes 4 (some .boolean), Cond.fieldLink RX11 74 "PostingPlannerModel" "last" "I"]
def wsX11_isPlace : List Cond := .code yX11_isPlace cX11_isPlace 2 (some .boolean) :: ((wsX11_isPlace_r1 ++ (wsX11_isPlace_r2 ++ (wsX11_isPlace_r3 ++ wsX11_isPlace_r4))) ++ wsX110)
def wsX11_clauseAt_r1 : List Cond := [Cond.fieldLink RX11 47 "PostingPlannerModel" "order" "[I", Cond.methodLink RX11 162 yX11_isPlace, Cond.instanceMethod yX11_isPlace, Cond.selects RX11 yX11_isPlace yX11_isPlace, Cond.initialized RX11, Cond.code yX11_isPlace cX11_isPlace 2 (some .boolean), Cond.fieldLink RX11 141 "PostingPlannerModel" "planSize" "I", Cond.methodLink RX11 156 yX11_makes, Cond.instanceMethod yX11_makes, Cond.selects RX11 yX11_makes yX11_makes, Cond.code yX11_makes cX11_makes 6 none, Cond.fieldLink RX11 108 "PostingPlannerModel" "kind" "I", Cond.fieldLink RX11 135 "PostingPlannerModel" "planKind" "I", Cond.fieldLink RX11 111 "PostingPlannerModel" "need" "I", Cond.fieldLink RX11 138 "PostingPlannerModel" "planNeed" "I", Cond.fieldLink RX11 105 "PostingPlannerModel" "clauses" "I", Cond.fieldLink RX11 32 "PostingPlannerModel" "clauseKinds" "[I", Cond.fieldLink RX11 44 "PostingPlannerModel" "estimates" "[I", Cond.methodLink RX11 144 yX11_plainly, Cond.instanceMethod yX11_plainly, Cond.selects RX11 yX11_plainly yX11_plainly, Cond.code yX11_plainly cX11_plainly 6 none, Cond.fieldLink RX11 17 "PostingPlannerModel" "kinds" "[I", Cond.fieldLink RX11 20 "PostingPlannerModel" "needs" "[I"]
def wsX11_clauseAt_r2 : List Cond := [Cond.fieldLink RX11 38 "PostingPlannerModel" "clauseSizes" "[I", Cond.fieldLink RX11 26 "PostingPlannerModel" "sizes" "[I", Cond.fieldLink RX11 29 "PostingPlannerModel" "literals" "[I", Cond.fieldLink RX11 41 "PostingPlannerModel" "clauseLiterals" "[I", Cond.fieldLink RX11 23 "PostingPlannerModel" "negated" "[Z", Cond.fieldLink RX11 35 "PostingPlannerModel" "clauseNeeds" "[I", Cond.methodLink RX11 121 yX11_some, Cond.static yX11_some, Cond.code yX11_some cX11_some 2 (some .int), Cond.methodLink RX11 78 yX11_in, Cond.static yX11_in, Cond.code yX11_in cX11_in 3 (some .boolean), Cond.methodLink RX11 148 yX11_thins, Cond.instanceMethod yX11_thins, Cond.selects RX11 yX11_thins yX11_thins, Cond.code yX11_thins cX11_thins 6 none, Cond.methodLink RX11 125 yX11_hasAhead, Cond.instanceMethod yX11_hasAhead, Cond.selects RX11 yX11_hasAhead yX11_hasAhead, Cond.code yX11_hasAhead cX11_hasAhead 6 (some .boolean), Cond.methodLink RX11 151 yX11_sorts, Cond.instanceMethod yX11_sorts, Cond.selects RX11 yX11_sorts yX11_sorts, Cond.code yX11_sorts cX11_sorts 5 none]
def wsX11_clauseAt_r3 : List Cond := [Cond.methodLink RX11 128 yX11_isAhead, Cond.instanceMethod yX11_isAhead, Cond.selects RX11 yX11_isAhead yX11_isAhead, Cond.code yX11_isAhead cX11_isAhead 5 (some .boolean), Cond.methodLink RX11 98 yX11_count0, Cond.instanceMethod yX11_count0, Cond.selects RX11 yX11_count0 yX11_count0, Cond.code yX11_count0 cX11_count0 4 (some .int), Cond.fieldLink RX11 7 "PostingPlannerModel" "there" "[Z", Cond.fieldLink RX11 13 "PostingPlannerModel" "words" "[I", Cond.methodLink RX11 94 yX11_isTrue, Cond.static yX11_isTrue, Cond.code yX11_isTrue cX11_isTrue 2 (some .boolean), Cond.methodLink RX11 154 yX11_estimates, Cond.instanceMethod yX11_estimates, Cond.selects RX11 yX11_estimates yX11_estimates, Cond.code yX11_estimates cX11_estimates 6 none, Cond.methodLink RX11 131 yX11_estimated, Cond.instanceMethod yX11_estimated, Cond.selects RX11 yX11_estimated yX11_estimated, Cond.code yX11_estimated cX11_estimated 6 (some .int), Cond.methodLink RX11 90 yX11_many, Cond.instanceMethod yX11_many, Cond.selects RX11 yX11_many yX11_many]
def wsX11_clauseAt_r4 : List Cond := [Cond.code yX11_many cX11_many 3 (some .int), Cond.methodLink RX11 86 yX11_goes, Cond.instanceMethod yX11_goes, Cond.selects RX11 yX11_goes yX11_goes, Cond.code yX11_goes cX11_goes 4 (some .boolean), Cond.fieldLink RX11 74 "PostingPlannerModel" "last" "I"]
def wsX11_clauseAt : List Cond := .code yX11_clauseAt cX11_clauseAt 2 (some .int) :: ((wsX11_clauseAt_r1 ++ (wsX11_clauseAt_r2 ++ (wsX11_clauseAt_r3 ++ wsX11_clauseAt_r4))) ++ wsX110)
def wsX11_kindAt_r1 : List Cond := [Cond.fieldLink RX11 32 "PostingPlannerModel" "clauseKinds" "[I", Cond.fieldLink RX11 47 "PostingPlannerModel" "order" "[I", Cond.methodLink RX11 162 yX11_isPlace, Cond.instanceMethod yX11_isPlace, Cond.selects RX11 yX11_isPlace yX11_isPlace, Cond.initialized RX11, Cond.code yX11_isPlace cX11_isPlace 2 (some .boolean), Cond.fieldLink RX11 141 "PostingPlannerModel" "planSize" "I", Cond.methodLink RX11 156 yX11_makes, Cond.instanceMethod yX11_makes, Cond.selects RX11 yX11_makes yX11_makes, Cond.code yX11_makes cX11_makes 6 none, Cond.fieldLink RX11 108 "PostingPlannerModel" "kind" "I", Cond.fieldLink RX11 135 "PostingPlannerModel" "planKind" "I", Cond.fieldLink RX11 111 "PostingPlannerModel" "need" "I", Cond.fieldLink RX11 138 "PostingPlannerModel" "planNeed" "I", Cond.fieldLink RX11 105 "PostingPlannerModel" "clauses" "I", Cond.fieldLink RX11 44 "PostingPlannerModel" "estimates" "[I", Cond.methodLink RX11 144 yX11_plainly, Cond.instanceMethod yX11_plainly, Cond.selects RX11 yX11_plainly yX11_plainly, Cond.code yX11_plainly cX11_plainly 6 none, Cond.fieldLink RX11 17 "PostingPlannerModel" "kinds" "[I", Cond.fieldLink RX11 20 "PostingPlannerModel" "needs" "[I"]
def wsX11_kindAt_r2 : List Cond := [Cond.fieldLink RX11 38 "PostingPlannerModel" "clauseSizes" "[I", Cond.fieldLink RX11 26 "PostingPlannerModel" "sizes" "[I", Cond.fieldLink RX11 29 "PostingPlannerModel" "literals" "[I", Cond.fieldLink RX11 41 "PostingPlannerModel" "clauseLiterals" "[I", Cond.fieldLink RX11 23 "PostingPlannerModel" "negated" "[Z", Cond.fieldLink RX11 35 "PostingPlannerModel" "clauseNeeds" "[I", Cond.methodLink RX11 121 yX11_some, Cond.static yX11_some, Cond.code yX11_some cX11_some 2 (some .int), Cond.methodLink RX11 78 yX11_in, Cond.static yX11_in, Cond.code yX11_in cX11_in 3 (some .boolean), Cond.methodLink RX11 148 yX11_thins, Cond.instanceMethod yX11_thins, Cond.selects RX11 yX11_thins yX11_thins, Cond.code yX11_thins cX11_thins 6 none, Cond.methodLink RX11 125 yX11_hasAhead, Cond.instanceMethod yX11_hasAhead, Cond.selects RX11 yX11_hasAhead yX11_hasAhead, Cond.code yX11_hasAhead cX11_hasAhead 6 (some .boolean), Cond.methodLink RX11 151 yX11_sorts, Cond.instanceMethod yX11_sorts, Cond.selects RX11 yX11_sorts yX11_sorts, Cond.code yX11_sorts cX11_sorts 5 none]
def wsX11_kindAt_r3 : List Cond := [Cond.methodLink RX11 128 yX11_isAhead, Cond.instanceMethod yX11_isAhead, Cond.selects RX11 yX11_isAhead yX11_isAhead, Cond.code yX11_isAhead cX11_isAhead 5 (some .boolean), Cond.methodLink RX11 98 yX11_count0, Cond.instanceMethod yX11_count0, Cond.selects RX11 yX11_count0 yX11_count0, Cond.code yX11_count0 cX11_count0 4 (some .int), Cond.fieldLink RX11 7 "PostingPlannerModel" "there" "[Z", Cond.fieldLink RX11 13 "PostingPlannerModel" "words" "[I", Cond.methodLink RX11 94 yX11_isTrue, Cond.static yX11_isTrue, Cond.code yX11_isTrue cX11_isTrue 2 (some .boolean), Cond.methodLink RX11 154 yX11_estimates, Cond.instanceMethod yX11_estimates, Cond.selects RX11 yX11_estimates yX11_estimates, Cond.code yX11_estimates cX11_estimates 6 none, Cond.methodLink RX11 131 yX11_estimated, Cond.instanceMethod yX11_estimated, Cond.selects RX11 yX11_estimated yX11_estimated, Cond.code yX11_estimated cX11_estimated 6 (some .int), Cond.methodLink RX11 90 yX11_many, Cond.instanceMethod yX11_many, Cond.selects RX11 yX11_many yX11_many]
def wsX11_kindAt_r4 : List Cond := [Cond.code yX11_many cX11_many 3 (some .int), Cond.methodLink RX11 86 yX11_goes, Cond.instanceMethod yX11_goes, Cond.selects RX11 yX11_goes yX11_goes, Cond.code yX11_goes cX11_goes 4 (some .boolean), Cond.fieldLink RX11 74 "PostingPlannerModel" "last" "I"]
def wsX11_kindAt : List Cond := .code yX11_kindAt cX11_kindAt 2 (some .int) :: ((wsX11_kindAt_r1 ++ (wsX11_kindAt_r2 ++ (wsX11_kindAt_r3 ++ wsX11_kindAt_r4))) ++ wsX110)
def wsX11_estimateAt_r1 : List Cond := [Cond.fieldLink RX11 44 "PostingPlannerModel" "estimates" "[I", Cond.fieldLink RX11 47 "PostingPlannerModel" "order" "[I", Cond.methodLink RX11 162 yX11_isPlace, Cond.instanceMethod yX11_isPlace, Cond.selects RX11 yX11_isPlace yX11_isPlace, Cond.initialized RX11, Cond.code yX11_isPlace cX11_isPlace 2 (some .boolean), Cond.fieldLink RX11 141 "PostingPlannerModel" "planSize" "I", Cond.methodLink RX11 156 yX11_makes, Cond.instanceMethod yX11_makes, Cond.selects RX11 yX11_makes yX11_makes, Cond.code yX11_makes cX11_makes 6 none, Cond.fieldLink RX11 108 "PostingPlannerModel" "kind" "I", Cond.fieldLink RX11 135 "PostingPlannerModel" "planKind" "I", Cond.fieldLink RX11 111 "PostingPlannerModel" "need" "I", Cond.fieldLink RX11 138 "PostingPlannerModel" "planNeed" "I", Cond.fieldLink RX11 105 "PostingPlannerModel" "clauses" "I", Cond.fieldLink RX11 32 "PostingPlannerModel" "clauseKinds" "[I", Cond.methodLink RX11 144 yX11_plainly, Cond.instanceMethod yX11_plainly, Cond.selects RX11 yX11_plainly yX11_plainly, Cond.code yX11_plainly cX11_plainly 6 none, Cond.fieldLink RX11 17 "PostingPlannerModel" "kinds" "[I", Cond.fieldLink RX11 20 "PostingPlannerModel" "needs" "[I"]
def wsX11_estimateAt_r2 : List Cond := [Cond.fieldLink RX11 38 "PostingPlannerModel" "clauseSizes" "[I", Cond.fieldLink RX11 26 "PostingPlannerModel" "sizes" "[I", Cond.fieldLink RX11 29 "PostingPlannerModel" "literals" "[I", Cond.fieldLink RX11 41 "PostingPlannerModel" "clauseLiterals" "[I", Cond.fieldLink RX11 23 "PostingPlannerModel" "negated" "[Z", Cond.fieldLink RX11 35 "PostingPlannerModel" "clauseNeeds" "[I", Cond.methodLink RX11 121 yX11_some, Cond.static yX11_some, Cond.code yX11_some cX11_some 2 (some .int), Cond.methodLink RX11 78 yX11_in, Cond.static yX11_in, Cond.code yX11_in cX11_in 3 (some .boolean), Cond.methodLink RX11 148 yX11_thins, Cond.instanceMethod yX11_thins, Cond.selects RX11 yX11_thins yX11_thins, Cond.code yX11_thins cX11_thins 6 none, Cond.methodLink RX11 125 yX11_hasAhead, Cond.instanceMethod yX11_hasAhead, Cond.selects RX11 yX11_hasAhead yX11_hasAhead, Cond.code yX11_hasAhead cX11_hasAhead 6 (some .boolean), Cond.methodLink RX11 151 yX11_sorts, Cond.instanceMethod yX11_sorts, Cond.selects RX11 yX11_sorts yX11_sorts, Cond.code yX11_sorts cX11_sorts 5 none]
def wsX11_estimateAt_r3 : List Cond := [Cond.methodLink RX11 128 yX11_isAhead, Cond.instanceMethod yX11_isAhead, Cond.selects RX11 yX11_isAhead yX11_isAhead, Cond.code yX11_isAhead cX11_isAhead 5 (some .boolean), Cond.methodLink RX11 98 yX11_count0, Cond.instanceMethod yX11_count0, Cond.selects RX11 yX11_count0 yX11_count0, Cond.code yX11_count0 cX11_count0 4 (some .int), Cond.fieldLink RX11 7 "PostingPlannerModel" "there" "[Z", Cond.fieldLink RX11 13 "PostingPlannerModel" "words" "[I", Cond.methodLink RX11 94 yX11_isTrue, Cond.static yX11_isTrue, Cond.code yX11_isTrue cX11_isTrue 2 (some .boolean), Cond.methodLink RX11 154 yX11_estimates, Cond.instanceMethod yX11_estimates, Cond.selects RX11 yX11_estimates yX11_estimates, Cond.code yX11_estimates cX11_estimates 6 none, Cond.methodLink RX11 131 yX11_estimated, Cond.instanceMethod yX11_estimated, Cond.selects RX11 yX11_estimated yX11_estimated, Cond.code yX11_estimated cX11_estimated 6 (some .int), Cond.methodLink RX11 90 yX11_many, Cond.instanceMethod yX11_many, Cond.selects RX11 yX11_many yX11_many]
def wsX11_estimateAt_r4 : List Cond := [Cond.code yX11_many cX11_many 3 (some .int), Cond.methodLink RX11 86 yX11_goes, Cond.instanceMethod yX11_goes, Cond.selects RX11 yX11_goes yX11_goes, Cond.code yX11_goes cX11_goes 4 (some .boolean), Cond.fieldLink RX11 74 "PostingPlannerModel" "last" "I"]
def wsX11_estimateAt : List Cond := .code yX11_estimateAt cX11_estimateAt 2 (some .int) :: ((wsX11_estimateAt_r1 ++ (wsX11_estimateAt_r2 ++ (wsX11_estimateAt_r3 ++ wsX11_estimateAt_r4))) ++ wsX110)
def wsX11_literalAt_r1 : List Cond := [Cond.fieldLink RX11 38 "PostingPlannerModel" "clauseSizes" "[I", Cond.fieldLink RX11 47 "PostingPlannerModel" "order" "[I", Cond.fieldLink RX11 41 "PostingPlannerModel" "clauseLiterals" "[I", Cond.methodLink RX11 162 yX11_isPlace, Cond.instanceMethod yX11_isPlace, Cond.selects RX11 yX11_isPlace yX11_isPlace, Cond.initialized RX11, Cond.code yX11_isPlace cX11_isPlace 2 (some .boolean), Cond.fieldLink RX11 141 "PostingPlannerModel" "planSize" "I", Cond.methodLink RX11 156 yX11_makes, Cond.instanceMethod yX11_makes, Cond.selects RX11 yX11_makes yX11_makes, Cond.code yX11_makes cX11_makes 6 none, Cond.fieldLink RX11 108 "PostingPlannerModel" "kind" "I", Cond.fieldLink RX11 135 "PostingPlannerModel" "planKind" "I", Cond.fieldLink RX11 111 "PostingPlannerModel" "need" "I", Cond.fieldLink RX11 138 "PostingPlannerModel" "planNeed" "I", Cond.fieldLink RX11 105 "PostingPlannerModel" "clauses" "I", Cond.fieldLink RX11 32 "PostingPlannerModel" "clauseKinds" "[I", Cond.fieldLink RX11 44 "PostingPlannerModel" "estimates" "[I", Cond.methodLink RX11 144 yX11_plainly, Cond.instanceMethod yX11_plainly, Cond.selects RX11 yX11_plainly yX11_plainly, Cond.code yX11_plainly cX11_plainly 6 none]
def wsX11_literalAt_r2 : List Cond := [Cond.fieldLink RX11 17 "PostingPlannerModel" "kinds" "[I", Cond.fieldLink RX11 20 "PostingPlannerModel" "needs" "[I", Cond.fieldLink RX11 26 "PostingPlannerModel" "sizes" "[I", Cond.fieldLink RX11 29 "PostingPlannerModel" "literals" "[I", Cond.fieldLink RX11 23 "PostingPlannerModel" "negated" "[Z", Cond.fieldLink RX11 35 "PostingPlannerModel" "clauseNeeds" "[I", Cond.methodLink RX11 121 yX11_some, Cond.static yX11_some, Cond.code yX11_some cX11_some 2 (some .int), Cond.methodLink RX11 78 yX11_in, Cond.static yX11_in, Cond.code yX11_in cX11_in 3 (some .boolean), Cond.methodLink RX11 148 yX11_thins, Cond.instanceMethod yX11_thins, Cond.selects RX11 yX11_thins yX11_thins, Cond.code yX11_thins cX11_thins 6 none, Cond.methodLink RX11 125 yX11_hasAhead, Cond.instanceMethod yX11_hasAhead, Cond.selects RX11 yX11_hasAhead yX11_hasAhead, Cond.code yX11_hasAhead cX11_hasAhead 6 (some .boolean), Cond.methodLink RX11 151 yX11_sorts, Cond.instanceMethod yX11_sorts, Cond.selects RX11 yX11_sorts yX11_sorts, Cond.code yX11_sorts cX11_sorts 5 none]
def wsX11_literalAt_r3 : List Cond := [Cond.methodLink RX11 128 yX11_isAhead, Cond.instanceMethod yX11_isAhead, Cond.selects RX11 yX11_isAhead yX11_isAhead, Cond.code yX11_isAhead cX11_isAhead 5 (some .boolean), Cond.methodLink RX11 98 yX11_count0, Cond.instanceMethod yX11_count0, Cond.selects RX11 yX11_count0 yX11_count0, Cond.code yX11_count0 cX11_count0 4 (some .int), Cond.fieldLink RX11 7 "PostingPlannerModel" "there" "[Z", Cond.fieldLink RX11 13 "PostingPlannerModel" "words" "[I", Cond.methodLink RX11 94 yX11_isTrue, Cond.static yX11_isTrue, Cond.code yX11_isTrue cX11_isTrue 2 (some .boolean), Cond.methodLink RX11 154 yX11_estimates, Cond.instanceMethod yX11_estimates, Cond.selects RX11 yX11_estimates yX11_estimates, Cond.code yX11_estimates cX11_estimates 6 none, Cond.methodLink RX11 131 yX11_estimated, Cond.instanceMethod yX11_estimated, Cond.selects RX11 yX11_estimated yX11_estimated, Cond.code yX11_estimated cX11_estimated 6 (some .int), Cond.methodLink RX11 90 yX11_many, Cond.instanceMethod yX11_many, Cond.selects RX11 yX11_many yX11_many]
def wsX11_literalAt_r4 : List Cond := [Cond.code yX11_many cX11_many 3 (some .int), Cond.methodLink RX11 86 yX11_goes, Cond.instanceMethod yX11_goes, Cond.selects RX11 yX11_goes yX11_goes, Cond.code yX11_goes cX11_goes 4 (some .boolean), Cond.fieldLink RX11 74 "PostingPlannerModel" "last" "I"]
def wsX11_literalAt : List Cond := .code yX11_literalAt cX11_literalAt 4 (some .int) :: ((wsX11_literalAt_r1 ++ (wsX11_literalAt_r2 ++ (wsX11_literalAt_r3 ++ wsX11_literalAt_r4))) ++ wsX110)
def wsX11_begin_r1 : List Cond := [Cond.fieldLink RX11 74 "PostingPlannerModel" "last" "I", Cond.fieldLink RX11 165 "PostingPlannerModel" "runs" "Z", Cond.fieldLink RX11 50 "PostingPlannerModel" "runThere" "[Z", Cond.fieldLink RX11 7 "PostingPlannerModel" "there" "[Z", Cond.fieldLink RX11 53 "PostingPlannerModel" "runWords" "[I", Cond.fieldLink RX11 13 "PostingPlannerModel" "words" "[I", Cond.fieldLink RX11 135 "PostingPlannerModel" "planKind" "I", Cond.fieldLink RX11 169 "PostingPlannerModel" "runKind" "I", Cond.fieldLink RX11 138 "PostingPlannerModel" "planNeed" "I", Cond.fieldLink RX11 172 "PostingPlannerModel" "runNeed" "I", Cond.fieldLink RX11 141 "PostingPlannerModel" "planSize" "I", Cond.fieldLink RX11 175 "PostingPlannerModel" "runSize" "I", Cond.fieldLink RX11 47 "PostingPlannerModel" "order" "[I", Cond.fieldLink RX11 56 "PostingPlannerModel" "runKinds" "[I", Cond.fieldLink RX11 32 "PostingPlannerModel" "clauseKinds" "[I", Cond.fieldLink RX11 59 "PostingPlannerModel" "runNeeds" "[I", Cond.fieldLink RX11 35 "PostingPlannerModel" "clauseNeeds" "[I", Cond.fieldLink RX11 62 "PostingPlannerModel" "runSizes" "[I", Cond.fieldLink RX11 38 "PostingPlannerModel" "clauseSizes" "[I", Cond.fieldLink RX11 71 "PostingPlannerModel" "clausePlaces" "[I", Cond.fieldLink RX11 65 "PostingPlannerModel" "runLiterals" "[I", Cond.fieldLink RX11 41 "PostingPlannerModel" "clauseLiterals" "[I", Cond.fieldLink RX11 68 "PostingPlannerModel" "literalPlaces" "[I", Cond.fieldLink RX11 178 "PostingPlannerModel" "given" "I"]
def wsX11_begin_r2 : List Cond := [Cond.fieldLink RX11 181 "PostingPlannerModel" "isOver" "Z", Cond.fieldLink RX11 184 "PostingPlannerModel" "readings" "I", Cond.methodLink RX11 156 yX11_makes, Cond.instanceMethod yX11_makes, Cond.selects RX11 yX11_makes yX11_makes, Cond.initialized RX11, Cond.code yX11_makes cX11_makes 6 none, Cond.fieldLink RX11 108 "PostingPlannerModel" "kind" "I", Cond.fieldLink RX11 111 "PostingPlannerModel" "need" "I", Cond.fieldLink RX11 105 "PostingPlannerModel" "clauses" "I", Cond.fieldLink RX11 44 "PostingPlannerModel" "estimates" "[I", Cond.methodLink RX11 144 yX11_plainly, Cond.instanceMethod yX11_plainly, Cond.selects RX11 yX11_plainly yX11_plainly, Cond.code yX11_plainly cX11_plainly 6 none, Cond.fieldLink RX11 17 "PostingPlannerModel" "kinds" "[I", Cond.fieldLink RX11 20 "PostingPlannerModel" "needs" "[I", Cond.fieldLink RX11 26 "PostingPlannerModel" "sizes" "[I", Cond.fieldLink RX11 29 "PostingPlannerModel" "literals" "[I", Cond.fieldLink RX11 23 "PostingPlannerModel" "negated" "[Z", Cond.methodLink RX11 121 yX11_some, Cond.static yX11_some, Cond.code yX11_some cX11_some 2 (some .int), Cond.methodLink RX11 78 yX11_in]
def wsX11_begin_r3 : List Cond := [Cond.static yX11_in, Cond.code yX11_in cX11_in 3 (some .boolean), Cond.methodLink RX11 148 yX11_thins, Cond.instanceMethod yX11_thins, Cond.selects RX11 yX11_thins yX11_thins, Cond.code yX11_thins cX11_thins 6 none, Cond.methodLink RX11 125 yX11_hasAhead, Cond.instanceMethod yX11_hasAhead, Cond.selects RX11 yX11_hasAhead yX11_hasAhead, Cond.code yX11_hasAhead cX11_hasAhead 6 (some .boolean), Cond.methodLink RX11 151 yX11_sorts, Cond.instanceMethod yX11_sorts, Cond.selects RX11 yX11_sorts yX11_sorts, Cond.code yX11_sorts cX11_sorts 5 none, Cond.methodLink RX11 128 yX11_isAhead, Cond.instanceMethod yX11_isAhead, Cond.selects RX11 yX11_isAhead yX11_isAhead, Cond.code yX11_isAhead cX11_isAhead 5 (some .boolean), Cond.methodLink RX11 98 yX11_count0, Cond.instanceMethod yX11_count0, Cond.selects RX11 yX11_count0 yX11_count0, Cond.code yX11_count0 cX11_count0 4 (some .int), Cond.methodLink RX11 94 yX11_isTrue, Cond.static yX11_isTrue]
def wsX11_begin_r4 : List Cond := [Cond.code yX11_isTrue cX11_isTrue 2 (some .boolean), Cond.methodLink RX11 154 yX11_estimates, Cond.instanceMethod yX11_estimates, Cond.selects RX11 yX11_estimates yX11_estimates, Cond.code yX11_estimates cX11_estimates 6 none, Cond.methodLink RX11 131 yX11_estimated, Cond.instanceMethod yX11_estimated, Cond.selects RX11 yX11_estimated yX11_estimated, Cond.code yX11_estimated cX11_estimated 6 (some .int), Cond.methodLink RX11 90 yX11_many, Cond.instanceMethod yX11_many, Cond.selects RX11 yX11_many yX11_many, Cond.code yX11_many cX11_many 3 (some .int), Cond.methodLink RX11 159 yX11_planEstimate, Cond.instanceMethod yX11_planEstimate, Cond.selects RX11 yX11_planEstimate yX11_planEstimate, Cond.code yX11_planEstimate cX11_planEstimate 4 (some .int)]
def wsX11_begin : List Cond := .code yX11_begin cX11_begin 4 (some .int) :: ((wsX11_begin_r1 ++ (wsX11_begin_r2 ++ (wsX11_begin_r3 ++ wsX11_begin_r4))) ++ wsX110)
def wsX11_seeksLiteral : List Cond := .code yX11_seeksLiteral cX11_seeksLiteral 6 none :: ([.fieldLink RX11 68 "PostingPlannerModel" "literalPlaces" "[I", .fieldLink RX11 65 "PostingPlannerModel" "runLiterals" "[I", .fieldLink RX11 50 "PostingPlannerModel" "runThere" "[Z", .fieldLink RX11 53 "PostingPlannerModel" "runWords" "[I", .fieldLink RX11 184 "PostingPlannerModel" "readings" "I", .methodLink RX11 94 yX11_isTrue, .static yX11_isTrue, .initialized RX11, .code yX11_isTrue cX11_isTrue 2 (some .boolean)] ++ wsX110)
def wsX11_nthLiteral : List Cond := .code yX11_nthLiteral cX11_nthLiteral 7 (some .int) :: ([.fieldLink RX11 68 "PostingPlannerModel" "literalPlaces" "[I"] ++ wsX110)
def wsX11_seeksClause : List Cond := .code yX11_seeksClause cX11_seeksClause 9 none :: ([.fieldLink RX11 71 "PostingPlannerModel" "clausePlaces" "[I", .fieldLink RX11 56 "PostingPlannerModel" "runKinds" "[I", .fieldLink RX11 62 "PostingPlannerModel" "runSizes" "[I", .fieldLink RX11 68 "PostingPlannerModel" "literalPlaces" "[I", .fieldLink RX11 59 "PostingPlannerModel" "runNeeds" "[I", .methodLink RX11 187 yX11_seeksLiteral, .instanceMethod yX11_seeksLiteral, .selects RX11 yX11_seeksLiteral yX11_seeksLiteral, .initialized RX11, .code yX11_seeksLiteral cX11_seeksLiteral 6 none, .fieldLink RX11 65 "PostingPlannerModel" "runLiterals" "[I", .fieldLink RX11 50 "PostingPlannerModel" "runThere" "[Z", .fieldLink RX11 53 "PostingPlannerModel" "runWords" "[I", .fieldLink RX11 184 "PostingPlannerModel" "readings" "I", .methodLink RX11 94 yX11_isTrue, .static yX11_isTrue, .code yX11_isTrue cX11_isTrue 2 (some .boolean), .methodLink RX11 191 yX11_nthLiteral, .instanceMethod yX11_nthLiteral, .selects RX11 yX11_nthLiteral yX11_nthLiteral, .code yX11_nthLiteral cX11_nthLiteral 7 (some .int)] ++ wsX110)
def wsX11_nthClause : List Cond := .code yX11_nthClause cX11_nthClause 5 (some .int) :: ([.fieldLink RX11 175 "PostingPlannerModel" "runSize" "I", .fieldLink RX11 71 "PostingPlannerModel" "clausePlaces" "[I"] ++ wsX110)
def wsX11_seeksPlan_r1 : List Cond := [Cond.fieldLink RX11 169 "PostingPlannerModel" "runKind" "I", Cond.fieldLink RX11 50 "PostingPlannerModel" "runThere" "[Z", Cond.fieldLink RX11 175 "PostingPlannerModel" "runSize" "I", Cond.fieldLink RX11 71 "PostingPlannerModel" "clausePlaces" "[I", Cond.fieldLink RX11 172 "PostingPlannerModel" "runNeed" "I", Cond.methodLink RX11 195 yX11_seeksClause, Cond.instanceMethod yX11_seeksClause, Cond.selects RX11 yX11_seeksClause yX11_seeksClause, Cond.initialized RX11, Cond.code yX11_seeksClause cX11_seeksClause 9 none, Cond.fieldLink RX11 56 "PostingPlannerModel" "runKinds" "[I", Cond.fieldLink RX11 62 "PostingPlannerModel" "runSizes" "[I", Cond.fieldLink RX11 68 "PostingPlannerModel" "literalPlaces" "[I", Cond.fieldLink RX11 59 "PostingPlannerModel" "runNeeds" "[I", Cond.methodLink RX11 187 yX11_seeksLiteral, Cond.instanceMethod yX11_seeksLiteral, Cond.selects RX11 yX11_seeksLiteral yX11_seeksLiteral, Cond.code yX11_seeksLiteral cX11_seeksLiteral 6 none, Cond.fieldLink RX11 65 "PostingPlannerModel" "runLiterals" "[I", Cond.fieldLink RX11 53 "PostingPlannerModel" "runWords" "[I", Cond.fieldLink RX11 184 "PostingPlannerModel" "readings" "I", Cond.methodLink RX11 94 yX11_isTrue, Cond.static yX11_isTrue, Cond.code yX11_isTrue cX11_isTrue 2 (some .boolean)]
def wsX11_seeksPlan_r2 : List Cond := [Cond.methodLink RX11 191 yX11_nthLiteral, Cond.instanceMethod yX11_nthLiteral, Cond.selects RX11 yX11_nthLiteral yX11_nthLiteral, Cond.code yX11_nthLiteral cX11_nthLiteral 7 (some .int), Cond.methodLink RX11 198 yX11_nthClause, Cond.instanceMethod yX11_nthClause, Cond.selects RX11 yX11_nthClause yX11_nthClause, Cond.code yX11_nthClause cX11_nthClause 5 (some .int)]
def wsX11_seeksPlan : List Cond := .code yX11_seeksPlan cX11_seeksPlan 7 (some .int) :: ((wsX11_seeksPlan_r1 ++ wsX11_seeksPlan_r2) ++ wsX110)
def wsX11_leaps_r1 : List Cond := [Cond.fieldLink RX11 178 "PostingPlannerModel" "given" "I", Cond.fieldLink RX11 181 "PostingPlannerModel" "isOver" "Z", Cond.methodLink RX11 201 yX11_seeksPlan, Cond.instanceMethod yX11_seeksPlan, Cond.selects RX11 yX11_seeksPlan yX11_seeksPlan, Cond.initialized RX11, Cond.code yX11_seeksPlan cX11_seeksPlan 7 (some .int), Cond.fieldLink RX11 169 "PostingPlannerModel" "runKind" "I", Cond.fieldLink RX11 50 "PostingPlannerModel" "runThere" "[Z", Cond.fieldLink RX11 175 "PostingPlannerModel" "runSize" "I", Cond.fieldLink RX11 71 "PostingPlannerModel" "clausePlaces" "[I", Cond.fieldLink RX11 172 "PostingPlannerModel" "runNeed" "I", Cond.methodLink RX11 195 yX11_seeksClause, Cond.instanceMethod yX11_seeksClause, Cond.selects RX11 yX11_seeksClause yX11_seeksClause, Cond.code yX11_seeksClause cX11_seeksClause 9 none, Cond.fieldLink RX11 56 "PostingPlannerModel" "runKinds" "[I", Cond.fieldLink RX11 62 "PostingPlannerModel" "runSizes" "[I", Cond.fieldLink RX11 68 "PostingPlannerModel" "literalPlaces" "[I", Cond.fieldLink RX11 59 "PostingPlannerModel" "runNeeds" "[I", Cond.methodLink RX11 187 yX11_seeksLiteral, Cond.instanceMethod yX11_seeksLiteral, Cond.selects RX11 yX11_seeksLiteral yX11_seeksLiteral, Cond.code yX11_seeksLiteral cX11_seeksLiteral 6 none]
def wsX11_leaps_r2 : List Cond := [Cond.fieldLink RX11 65 "PostingPlannerModel" "runLiterals" "[I", Cond.fieldLink RX11 53 "PostingPlannerModel" "runWords" "[I", Cond.fieldLink RX11 184 "PostingPlannerModel" "readings" "I", Cond.methodLink RX11 94 yX11_isTrue, Cond.static yX11_isTrue, Cond.code yX11_isTrue cX11_isTrue 2 (some .boolean), Cond.methodLink RX11 191 yX11_nthLiteral, Cond.instanceMethod yX11_nthLiteral, Cond.selects RX11 yX11_nthLiteral yX11_nthLiteral, Cond.code yX11_nthLiteral cX11_nthLiteral 7 (some .int), Cond.methodLink RX11 198 yX11_nthClause, Cond.instanceMethod yX11_nthClause, Cond.selects RX11 yX11_nthClause yX11_nthClause, Cond.code yX11_nthClause cX11_nthClause 5 (some .int)]
def wsX11_leaps : List Cond := .code yX11_leaps cX11_leaps 4 (some .int) :: ((wsX11_leaps_r1 ++ wsX11_leaps_r2) ++ wsX110)
def wsX11_leap_r1 : List Cond := [Cond.fieldLink RX11 165 "PostingPlannerModel" "runs" "Z", Cond.methodLink RX11 82 yX11_isDocument, Cond.static yX11_isDocument, Cond.initialized RX11, Cond.code yX11_isDocument cX11_isDocument 1 (some .boolean), Cond.methodLink RX11 78 yX11_in, Cond.static yX11_in, Cond.code yX11_in cX11_in 3 (some .boolean), Cond.methodLink RX11 86 yX11_goes, Cond.instanceMethod yX11_goes, Cond.selects RX11 yX11_goes yX11_goes, Cond.code yX11_goes cX11_goes 4 (some .boolean), Cond.fieldLink RX11 74 "PostingPlannerModel" "last" "I", Cond.methodLink RX11 204 yX11_leaps, Cond.instanceMethod yX11_leaps, Cond.selects RX11 yX11_leaps yX11_leaps, Cond.code yX11_leaps cX11_leaps 4 (some .int), Cond.fieldLink RX11 178 "PostingPlannerModel" "given" "I", Cond.fieldLink RX11 181 "PostingPlannerModel" "isOver" "Z", Cond.methodLink RX11 201 yX11_seeksPlan, Cond.instanceMethod yX11_seeksPlan, Cond.selects RX11 yX11_seeksPlan yX11_seeksPlan, Cond.code yX11_seeksPlan cX11_seeksPlan 7 (some .int), Cond.fieldLink RX11 169 "PostingPlannerModel" "runKind" "I"]
def wsX11_leap_r2 : List Cond := [Cond.fieldLink RX11 50 "PostingPlannerModel" "runThere" "[Z", Cond.fieldLink RX11 175 "PostingPlannerModel" "runSize" "I", Cond.fieldLink RX11 71 "PostingPlannerModel" "clausePlaces" "[I", Cond.fieldLink RX11 172 "PostingPlannerModel" "runNeed" "I", Cond.methodLink RX11 195 yX11_seeksClause, Cond.instanceMethod yX11_seeksClause, Cond.selects RX11 yX11_seeksClause yX11_seeksClause, Cond.code yX11_seeksClause cX11_seeksClause 9 none, Cond.fieldLink RX11 56 "PostingPlannerModel" "runKinds" "[I", Cond.fieldLink RX11 62 "PostingPlannerModel" "runSizes" "[I", Cond.fieldLink RX11 68 "PostingPlannerModel" "literalPlaces" "[I", Cond.fieldLink RX11 59 "PostingPlannerModel" "runNeeds" "[I", Cond.methodLink RX11 187 yX11_seeksLiteral, Cond.instanceMethod yX11_seeksLiteral, Cond.selects RX11 yX11_seeksLiteral yX11_seeksLiteral, Cond.code yX11_seeksLiteral cX11_seeksLiteral 6 none, Cond.fieldLink RX11 65 "PostingPlannerModel" "runLiterals" "[I", Cond.fieldLink RX11 53 "PostingPlannerModel" "runWords" "[I", Cond.fieldLink RX11 184 "PostingPlannerModel" "readings" "I", Cond.methodLink RX11 94 yX11_isTrue, Cond.static yX11_isTrue, Cond.code yX11_isTrue cX11_isTrue 2 (some .boolean), Cond.methodLink RX11 191 yX11_nthLiteral, Cond.instanceMethod yX11_nthLiteral]
def wsX11_leap_r3 : List Cond := [Cond.selects RX11 yX11_nthLiteral yX11_nthLiteral, Cond.code yX11_nthLiteral cX11_nthLiteral 7 (some .int), Cond.methodLink RX11 198 yX11_nthClause, Cond.instanceMethod yX11_nthClause, Cond.selects RX11 yX11_nthClause yX11_nthClause, Cond.code yX11_nthClause cX11_nthClause 5 (some .int)]
def wsX11_leap : List Cond := .code yX11_leap cX11_leap 2 (some .int) :: ((wsX11_leap_r1 ++ (wsX11_leap_r2 ++ wsX11_leap_r3)) ++ wsX110)
def wsX11_next_r1 : List Cond := [Cond.fieldLink RX11 165 "PostingPlannerModel" "runs" "Z", Cond.methodLink RX11 86 yX11_goes, Cond.instanceMethod yX11_goes, Cond.selects RX11 yX11_goes yX11_goes, Cond.initialized RX11, Cond.code yX11_goes cX11_goes 4 (some .boolean), Cond.fieldLink RX11 74 "PostingPlannerModel" "last" "I", Cond.methodLink RX11 204 yX11_leaps, Cond.instanceMethod yX11_leaps, Cond.selects RX11 yX11_leaps yX11_leaps, Cond.code yX11_leaps cX11_leaps 4 (some .int), Cond.fieldLink RX11 178 "PostingPlannerModel" "given" "I", Cond.fieldLink RX11 181 "PostingPlannerModel" "isOver" "Z", Cond.methodLink RX11 201 yX11_seeksPlan, Cond.instanceMethod yX11_seeksPlan, Cond.selects RX11 yX11_seeksPlan yX11_seeksPlan, Cond.code yX11_seeksPlan cX11_seeksPlan 7 (some .int), Cond.fieldLink RX11 169 "PostingPlannerModel" "runKind" "I", Cond.fieldLink RX11 50 "PostingPlannerModel" "runThere" "[Z", Cond.fieldLink RX11 175 "PostingPlannerModel" "runSize" "I", Cond.fieldLink RX11 71 "PostingPlannerModel" "clausePlaces" "[I", Cond.fieldLink RX11 172 "PostingPlannerModel" "runNeed" "I", Cond.methodLink RX11 195 yX11_seeksClause, Cond.instanceMethod yX11_seeksClause]
def wsX11_next_r2 : List Cond := [Cond.selects RX11 yX11_seeksClause yX11_seeksClause, Cond.code yX11_seeksClause cX11_seeksClause 9 none, Cond.fieldLink RX11 56 "PostingPlannerModel" "runKinds" "[I", Cond.fieldLink RX11 62 "PostingPlannerModel" "runSizes" "[I", Cond.fieldLink RX11 68 "PostingPlannerModel" "literalPlaces" "[I", Cond.fieldLink RX11 59 "PostingPlannerModel" "runNeeds" "[I", Cond.methodLink RX11 187 yX11_seeksLiteral, Cond.instanceMethod yX11_seeksLiteral, Cond.selects RX11 yX11_seeksLiteral yX11_seeksLiteral, Cond.code yX11_seeksLiteral cX11_seeksLiteral 6 none, Cond.fieldLink RX11 65 "PostingPlannerModel" "runLiterals" "[I", Cond.fieldLink RX11 53 "PostingPlannerModel" "runWords" "[I", Cond.fieldLink RX11 184 "PostingPlannerModel" "readings" "I", Cond.methodLink RX11 94 yX11_isTrue, Cond.static yX11_isTrue, Cond.code yX11_isTrue cX11_isTrue 2 (some .boolean), Cond.methodLink RX11 191 yX11_nthLiteral, Cond.instanceMethod yX11_nthLiteral, Cond.selects RX11 yX11_nthLiteral yX11_nthLiteral, Cond.code yX11_nthLiteral cX11_nthLiteral 7 (some .int), Cond.methodLink RX11 198 yX11_nthClause, Cond.instanceMethod yX11_nthClause, Cond.selects RX11 yX11_nthClause yX11_nthClause, Cond.code yX11_nthClause cX11_nthClause 5 (some .int)]
def wsX11_next : List Cond := .code yX11_next cX11_next 1 (some .int) :: ((wsX11_next_r1 ++ wsX11_next_r2) ++ wsX110)
def wsX11_readings : List Cond := .code yX11_readings cX11_readings 1 (some .int) :: ([.fieldLink RX11 165 "PostingPlannerModel" "runs" "Z", .fieldLink RX11 184 "PostingPlannerModel" "readings" "I", .methodLink RX11 86 yX11_goes, .instanceMethod yX11_goes, .selects RX11 yX11_goes yX11_goes, .initialized RX11, .code yX11_goes cX11_goes 4 (some .boolean), .fieldLink RX11 74 "PostingPlannerModel" "last" "I"] ++ wsX110)
def wsJ9_max_7cf53 : List Cond := .code yJ9_max_7cf53 cJ9_max_7cf53 2 (some .int) :: ([])
def wsJ9_min_7cf53 : List Cond := .code yJ9_min_7cf53 cJ9_min_7cf53 2 (some .int) :: ([])
def wsL_put : List Cond := .codeWith yL_put cL_put 5 (some .int) [(0, 17, 20, 13), (0, 17, 24, 15)] :: ([.classLink RL 13 "java/lang/IndexOutOfBoundsException", .classLink RL 15 "java/lang/IllegalArgumentException", .methodLink RL 7 yX10_put, .instanceMethod yX10_put, .selects RX10 yX10_put yX10_put, .initialized RX10, .code yX10_put cX10_put 3 (some .boolean), .classLink RX10 46 "java/lang/IllegalArgumentException", .initialized "java/lang/IllegalArgumentException", .fieldLink RX10 10 "PostingPlanner" "shelf" "LPostingPlanner$Shelf;", .methodLink RX10 42 yX10_checkDocument, .instanceMethod yX10_checkDocument, .selects RX10 yX10_checkDocument yX10_checkDocument, .code yX10_checkDocument cX10_checkDocument 2 none, .classLink RX10 99 "java/lang/IndexOutOfBoundsException", .initialized "java/lang/IndexOutOfBoundsException", .methodLink RX10 53 yX7_replace, .instanceMethod yX7_replace, .selects RX7 yX7_replace yX7_replace, .initialized RX7, .code yX7_replace cX7_replace 4 (some .boolean), .fieldLink RX7 9 "PostingPlanner$Shelf" "words" "[I"] ++ wsX100 ++ wsX70 ++ (vx_atS RX10 50 "java/lang/IllegalArgumentException" ["java/lang/RuntimeException", "java/lang/Exception"]).filter goodWord ++ (vx_atS RX10 103 "java/lang/IndexOutOfBoundsException" ["java/lang/RuntimeException", "java/lang/Exception"]).filter goodWord)
def wsL_drop : List Cond := .codeWith yL_drop cL_drop 4 (some .int) [(0, 16, 19, 13)] :: ([.classLink RL 13 "java/lang/IndexOutOfBoundsException", .methodLink RL 17 yX10_drop, .instanceMethod yX10_drop, .selects RX10 yX10_drop yX10_drop, .initialized RX10, .code yX10_drop cX10_drop 2 (some .boolean), .fieldLink RX10 10 "PostingPlanner" "shelf" "LPostingPlanner$Shelf;", .methodLink RX10 42 yX10_checkDocument, .instanceMethod yX10_checkDocument, .selects RX10 yX10_checkDocument yX10_checkDocument, .code yX10_checkDocument cX10_checkDocument 2 none, .classLink RX10 99 "java/lang/IndexOutOfBoundsException", .initialized "java/lang/IndexOutOfBoundsException", .methodLink RX10 53 yX7_replace, .instanceMethod yX7_replace, .selects RX7 yX7_replace yX7_replace, .initialized RX7, .code yX7_replace cX7_replace 4 (some .boolean), .fieldLink RX7 9 "PostingPlanner$Shelf" "words" "[I"] ++ wsX100 ++ wsX70 ++ (vx_atS RX10 103 "java/lang/IndexOutOfBoundsException" ["java/lang/RuntimeException", "java/lang/Exception"]).filter goodWord)
def wsL_count_r1 : List Cond := [Cond.classLink RL 13 "java/lang/IndexOutOfBoundsException", Cond.methodLink RL 21 yX10_count, Cond.instanceMethod yX10_count, Cond.selects RX10 yX10_count yX10_count, Cond.initialized RX10, Cond.code yX10_count cX10_count 2 (some .int), Cond.fieldLink RX10 10 "PostingPlanner" "shelf" "LPostingPlanner$Shelf;", Cond.methodLink RX10 67 yX10_checkWord, Cond.instanceMethod yX10_checkWord, Cond.selects RX10 yX10_checkWord yX10_checkWord, Cond.code yX10_checkWord cX10_checkWord 2 none, Cond.classLink RX10 99 "java/lang/IndexOutOfBoundsException", Cond.initialized "java/lang/IndexOutOfBoundsException", Cond.methodLink RX10 70 yX10_codeOf, Cond.static yX10_codeOf, Cond.code yX10_codeOf cX10_codeOf 2 (some .int), Cond.methodLink RX10 74 yX7_truthsOf, Cond.instanceMethod yX7_truthsOf, Cond.selects RX7 yX7_truthsOf yX7_truthsOf, Cond.initialized RX7, Cond.code yX7_truthsOf cX7_truthsOf 5 (some .long), Cond.fieldLink RX7 9 "PostingPlanner$Shelf" "words" "[I", Cond.static yX10_isLiteralTrue, Cond.code yX10_isLiteralTrue cX10_isLiteralTrue 2 (some .boolean)]
def wsL_count_r2 : List Cond := [Cond.methodLink RX10 61 yJ13_bitCount_95d88, Cond.static yJ13_bitCount_95d88, Cond.initialized RJ13, Cond.code yJ13_bitCount_95d88 cJ13_bitCount_95d88 2 (some .int), Cond.constantLong RJ13 314 (6148914691236517205), Cond.constantLong RJ13 316 (3689348814741910323), Cond.constantLong RJ13 318 (1085102592571150095)]
def wsL_count : List Cond := .codeWith yL_count cL_count 4 (some .int) [(0, 9, 12, 13)] :: ((wsL_count_r1 ++ wsL_count_r2) ++ wsX100 ++ wsX70 ++ (vx_atS RX10 103 "java/lang/IndexOutOfBoundsException" ["java/lang/RuntimeException", "java/lang/Exception"]).filter goodWord)
def wsL_ask : List Cond := .codeWith yL_ask cL_ask 5 (some .int) [(0, 10, 13, 15)] :: ([.classLink RL 15 "java/lang/IllegalArgumentException", .methodLink RL 25 yX10_ask, .instanceMethod yX10_ask, .selects RX10 yX10_ask yX10_ask, .initialized RX10, .code yX10_ask cX10_ask 3 (some .int), .fieldLink RX10 19 "PostingPlanner" "question" "LPostingPlanner$Question;", .methodLink RX10 78 yX10_checkKindAndNeed, .instanceMethod yX10_checkKindAndNeed, .selects RX10 yX10_checkKindAndNeed yX10_checkKindAndNeed, .code yX10_checkKindAndNeed cX10_checkKindAndNeed 6 none, .classLink RX10 46 "java/lang/IllegalArgumentException", .initialized "java/lang/IllegalArgumentException", .methodLink RX10 82 yX5_restart, .instanceMethod yX5_restart, .selects RX5 yX5_restart yX5_restart, .initialized RX5, .code yX5_restart cX5_restart 4 (some .int), .fieldLink RX5 22 "PostingPlanner$Question" "size" "I", .fieldLink RX5 18 "PostingPlanner$Question" "kind" "I", .fieldLink RX5 25 "PostingPlanner$Question" "need" "I"] ++ wsX100 ++ wsX50 ++ (vx_atS RX10 50 "java/lang/IllegalArgumentException" ["java/lang/RuntimeException", "java/lang/Exception"]).filter goodWord)
def wsL_clause_r1 : List Cond := [Cond.classLink RL 15 "java/lang/IllegalArgumentException", Cond.classLink RL 33 "java/lang/IllegalStateException", Cond.methodLink RL 29 yX10_clause, Cond.instanceMethod yX10_clause, Cond.selects RX10 yX10_clause yX10_clause, Cond.initialized RX10, Cond.code yX10_clause cX10_clause 5 (some .int), Cond.classLink RX10 90 "java/lang/IllegalStateException", Cond.initialized "java/lang/IllegalStateException", Cond.fieldLink RX10 19 "PostingPlanner" "question" "LPostingPlanner$Question;", Cond.methodLink RX10 78 yX10_checkKindAndNeed, Cond.instanceMethod yX10_checkKindAndNeed, Cond.selects RX10 yX10_checkKindAndNeed yX10_checkKindAndNeed, Cond.code yX10_checkKindAndNeed cX10_checkKindAndNeed 6 none, Cond.classLink RX10 46 "java/lang/IllegalArgumentException", Cond.initialized "java/lang/IllegalArgumentException", Cond.methodLink RX10 86 yX5_append, Cond.instanceMethod yX5_append, Cond.selects RX5 yX5_append yX5_append, Cond.initialized RX5, Cond.code yX5_append cX5_append 4 (some .int), Cond.fieldLink RX5 22 "PostingPlanner$Question" "size" "I", Cond.fieldLink RX5 11 "PostingPlanner$Question" "clauses" "[LPostingPlanner$ToldClause;", Cond.methodLink RX5 28 yX9_restart]
def wsL_clause_r2 : List Cond := [Cond.instanceMethod yX9_restart, Cond.selects RX9 yX9_restart yX9_restart, Cond.initialized RX9, Cond.code yX9_restart cX9_restart 4 none, Cond.fieldLink RX9 15 "PostingPlanner$ToldClause" "kind" "I", Cond.fieldLink RX9 19 "PostingPlanner$ToldClause" "need" "I", Cond.fieldLink RX9 22 "PostingPlanner$ToldClause" "isNegated" "Z", Cond.fieldLink RX9 26 "PostingPlanner$ToldClause" "size" "I"]
def wsL_clause : List Cond := .codeWith yL_clause cL_clause 6 (some .int) [(0, 12, 15, 15), (0, 12, 19, 33)] :: ((wsL_clause_r1 ++ wsL_clause_r2) ++ wsX100 ++ wsX50 ++ wsX90 ++ (vx_atS RX10 94 "java/lang/IllegalStateException" ["java/lang/RuntimeException", "java/lang/Exception"]).filter goodWord ++ (vx_atS RX10 50 "java/lang/IllegalArgumentException" ["java/lang/RuntimeException", "java/lang/Exception"]).filter goodWord)
def wsL_literal_r1 : List Cond := [Cond.classLink RL 13 "java/lang/IndexOutOfBoundsException", Cond.classLink RL 33 "java/lang/IllegalStateException", Cond.methodLink RL 35 yX10_literal, Cond.instanceMethod yX10_literal, Cond.selects RX10 yX10_literal yX10_literal, Cond.initialized RX10, Cond.code yX10_literal cX10_literal 5 (some .int), Cond.classLink RX10 99 "java/lang/IndexOutOfBoundsException", Cond.initialized "java/lang/IndexOutOfBoundsException", Cond.classLink RX10 90 "java/lang/IllegalStateException", Cond.initialized "java/lang/IllegalStateException", Cond.fieldLink RX10 19 "PostingPlanner" "question" "LPostingPlanner$Question;", Cond.fieldLink RX10 111 "PostingPlanner$ToldClause" "size" "I", Cond.methodLink RX10 95 yX5_toldAt, Cond.instanceMethod yX5_toldAt, Cond.selects RX5 yX5_toldAt yX5_toldAt, Cond.initialized RX5, Cond.code yX5_toldAt cX5_toldAt 2 (some (.object "PostingPlanner$ToldClause")), Cond.fieldLink RX5 22 "PostingPlanner$Question" "size" "I", Cond.fieldLink RX5 11 "PostingPlanner$Question" "clauses" "[LPostingPlanner$ToldClause;", Cond.methodLink RX10 67 yX10_checkWord, Cond.instanceMethod yX10_checkWord, Cond.selects RX10 yX10_checkWord yX10_checkWord, Cond.code yX10_checkWord cX10_checkWord 2 none]
def wsL_literal_r2 : List Cond := [Cond.methodLink RX10 70 yX10_codeOf, Cond.static yX10_codeOf, Cond.code yX10_codeOf cX10_codeOf 2 (some .int), Cond.methodLink RX10 104 yX9_append, Cond.instanceMethod yX9_append, Cond.selects RX9 yX9_append yX9_append, Cond.initialized RX9, Cond.code yX9_append cX9_append 2 (some .boolean), Cond.fieldLink RX9 26 "PostingPlanner$ToldClause" "size" "I", Cond.fieldLink RX9 9 "PostingPlanner$ToldClause" "codes" "[I"]
def wsL_literal : List Cond := .codeWith yL_literal cL_literal 6 (some .int) [(0, 12, 15, 13), (0, 12, 19, 33)] :: ((wsL_literal_r1 ++ wsL_literal_r2) ++ wsX100 ++ wsX90 ++ wsX50 ++ (vx_atS RX10 103 "java/lang/IndexOutOfBoundsException" ["java/lang/RuntimeException", "java/lang/Exception"]).filter goodWord ++ (vx_atS RX10 94 "java/lang/IllegalStateException" ["java/lang/RuntimeException", "java/lang/Exception"]).filter goodWord)
def wsL_matches_r1 : List Cond := [Cond.classLink RL 13 "java/lang/IndexOutOfBoundsException", Cond.methodLink RL 38 yX10_matches, Cond.instanceMethod yX10_matches, Cond.selects RX10 yX10_matches yX10_matches, Cond.initialized RX10, Cond.code yX10_matches cX10_matches 2 (some .boolean), Cond.methodLink RX10 42 yX10_checkDocument, Cond.instanceMethod yX10_checkDocument, Cond.selects RX10 yX10_checkDocument yX10_checkDocument, Cond.code yX10_checkDocument cX10_checkDocument 2 none, Cond.classLink RX10 99 "java/lang/IndexOutOfBoundsException", Cond.initialized "java/lang/IndexOutOfBoundsException", Cond.methodLink RX10 115 yX10_isHit, Cond.instanceMethod yX10_isHit, Cond.selects RX10 yX10_isHit yX10_isHit, Cond.code yX10_isHit cX10_isHit 3 (some .boolean), Cond.fieldLink RX10 10 "PostingPlanner" "shelf" "LPostingPlanner$Shelf;", Cond.fieldLink RX10 19 "PostingPlanner" "question" "LPostingPlanner$Question;", Cond.methodLink RX10 183 yX7_wordsAt, Cond.instanceMethod yX7_wordsAt, Cond.selects RX7 yX7_wordsAt yX7_wordsAt, Cond.initialized RX7, Cond.code yX7_wordsAt cX7_wordsAt 2 (some .int), Cond.fieldLink RX7 9 "PostingPlanner$Shelf" "words" "[I"]
def wsL_matches_r2 : List Cond := [Cond.methodLink RX10 186 yX5_isTrueOf, Cond.instanceMethod yX5_isTrueOf, Cond.selects RX5 yX5_isTrueOf yX5_isTrueOf, Cond.initialized RX5, Cond.code yX5_isTrueOf cX5_isTrueOf 5 (some .boolean), Cond.fieldLink RX5 22 "PostingPlanner$Question" "size" "I", Cond.fieldLink RX5 18 "PostingPlanner$Question" "kind" "I", Cond.fieldLink RX5 25 "PostingPlanner$Question" "need" "I", Cond.methodLink RX5 32 yX5_toldAt, Cond.instanceMethod yX5_toldAt, Cond.selects RX5 yX5_toldAt yX5_toldAt, Cond.code yX5_toldAt cX5_toldAt 2 (some (.object "PostingPlanner$ToldClause")), Cond.fieldLink RX5 11 "PostingPlanner$Question" "clauses" "[LPostingPlanner$ToldClause;", Cond.methodLink RX5 36 yX9_isTrueOf, Cond.instanceMethod yX9_isTrueOf, Cond.selects RX9 yX9_isTrueOf yX9_isTrueOf, Cond.initialized RX9, Cond.code yX9_isTrueOf cX9_isTrueOf 4 (some .boolean), Cond.fieldLink RX9 26 "PostingPlanner$ToldClause" "size" "I", Cond.fieldLink RX9 9 "PostingPlanner$ToldClause" "codes" "[I", Cond.fieldLink RX9 15 "PostingPlanner$ToldClause" "kind" "I", Cond.fieldLink RX9 19 "PostingPlanner$ToldClause" "need" "I", Cond.fieldLink RX9 22 "PostingPlanner$ToldClause" "isNegated" "Z", Cond.static yX10_isLiteralTrue]
def wsL_matches_r3 : List Cond := [Cond.code yX10_isLiteralTrue cX10_isLiteralTrue 2 (some .boolean), Cond.static yX10_isEnough, Cond.code yX10_isEnough cX10_isEnough 4 (some .boolean)]
def wsL_matches : List Cond := .codeWith yL_matches cL_matches 4 (some .int) [(0, 16, 19, 13)] :: ((wsL_matches_r1 ++ (wsL_matches_r2 ++ wsL_matches_r3)) ++ wsX100 ++ wsX70 ++ wsX50 ++ wsX90 ++ (vx_atS RX10 103 "java/lang/IndexOutOfBoundsException" ["java/lang/RuntimeException", "java/lang/Exception"]).filter goodWord)
def wsL_clauseAt_r1 : List Cond := [Cond.classLink RL 15 "java/lang/IllegalArgumentException", Cond.methodLink RL 41 yX10_clauseAt, Cond.instanceMethod yX10_clauseAt, Cond.selects RX10 yX10_clauseAt yX10_clauseAt, Cond.initialized RX10, Cond.code yX10_clauseAt cX10_clauseAt 2 (some .int), Cond.fieldLink RX10 136 "PostingPlanner$PlannedClause" "rank" "I", Cond.sameField "PostingPlanner$PlannedClause" "PostingPlanner$Part" "rank" "I", Cond.methodLink RX10 132 yX10_plannedClause, Cond.instanceMethod yX10_plannedClause, Cond.selects RX10 yX10_plannedClause yX10_plannedClause, Cond.code yX10_plannedClause cX10_plannedClause 3 (some (.object "PostingPlanner$PlannedClause")), Cond.classLink RX10 46 "java/lang/IllegalArgumentException", Cond.initialized "java/lang/IllegalArgumentException", Cond.fieldLink RX10 31 "PostingPlanner" "plan" "LPostingPlanner$Plan;", Cond.fieldLink RX10 19 "PostingPlanner" "question" "LPostingPlanner$Question;", Cond.fieldLink RX10 10 "PostingPlanner" "shelf" "LPostingPlanner$Shelf;", Cond.methodLink RX10 118 yX2_make, Cond.instanceMethod yX2_make, Cond.selects RX2 yX2_make yX2_make, Cond.initialized RX2, Cond.code yX2_make cX2_make 7 none, Cond.fieldLink RX2 26 "PostingPlanner$Question" "kind" "I", Cond.fieldLink RX2 32 "PostingPlanner$Question" "need" "I"]
def wsL_clauseAt_r2 : List Cond := [Cond.fieldLink RX2 11 "PostingPlanner$Plan" "clauses" "[LPostingPlanner$PlannedClause;", Cond.fieldLink RX2 55 "PostingPlanner$Plan" "size" "I", Cond.sameField "PostingPlanner$Plan" "PostingPlanner$Group" "size" "I", Cond.methodLink RX2 20 yX7_allThere, Cond.instanceMethod yX7_allThere, Cond.selects RX7 yX7_allThere yX7_allThere, Cond.initialized RX7, Cond.code yX7_allThere cX7_allThere 4 (some .long), Cond.fieldLink RX7 9 "PostingPlanner$Shelf" "words" "[I", Cond.methodLink RX2 35 ⟨"PostingPlanner$Plan", "restart", "(IIJ)V"⟩, Cond.sameMethod "PostingPlanner$Plan" "PostingPlanner$Group" "restart" "(IIJ)V", Cond.selects RX2 ⟨"PostingPlanner$Plan", "restart", "(IIJ)V"⟩ yX0_restart, Cond.instanceMethod yX0_restart, Cond.initialized RX0, Cond.code yX0_restart cX0_restart 5 none, Cond.fieldLink RX0 15 "PostingPlanner$Group" "kind" "I", Cond.fieldLink RX0 19 "PostingPlanner$Group" "need" "I", Cond.fieldLink RX0 22 "PostingPlanner$Group" "size" "I", Cond.fieldLink RX0 25 "PostingPlanner$Group" "there" "J", Cond.fieldLink RX0 29 "PostingPlanner$Group" "place" "I", Cond.sameField "PostingPlanner$Group" "PostingPlanner$Part" "place" "I", Cond.methodLink RX2 39 ⟨"PostingPlanner$Plan", "isFixed", "()Z"⟩, Cond.sameMethod "PostingPlanner$Plan" "PostingPlanner$Group" "isFixed" "()Z", Cond.selects RX2 ⟨"PostingPlanner$Plan", "isFixed", "()Z"⟩ yX0_isFixed]
def wsL_clauseAt_r3 : List Cond := [Cond.instanceMethod yX0_isFixed, Cond.code yX0_isFixed cX0_isFixed 1 (some .boolean), Cond.methodLink RX2 43 yX5_toldAt, Cond.instanceMethod yX5_toldAt, Cond.selects RX5 yX5_toldAt yX5_toldAt, Cond.initialized RX5, Cond.code yX5_toldAt cX5_toldAt 2 (some (.object "PostingPlanner$ToldClause")), Cond.fieldLink RX5 22 "PostingPlanner$Question" "size" "I", Cond.fieldLink RX5 11 "PostingPlanner$Question" "clauses" "[LPostingPlanner$ToldClause;", Cond.methodLink RX2 47 yX3_make, Cond.instanceMethod yX3_make, Cond.selects RX3 yX3_make yX3_make, Cond.initialized RX3, Cond.code yX3_make cX3_make 5 none, Cond.fieldLink RX3 24 "PostingPlanner$ToldClause" "kind" "I", Cond.fieldLink RX3 29 "PostingPlanner$ToldClause" "need" "I", Cond.fieldLink RX3 36 "PostingPlanner$ToldClause" "isNegated" "Z", Cond.fieldLink RX3 40 "PostingPlanner$ToldClause" "size" "I", Cond.methodLink RX3 32 ⟨"PostingPlanner$PlannedClause", "restart", "(IIJ)V"⟩, Cond.sameMethod "PostingPlanner$PlannedClause" "PostingPlanner$Group" "restart" "(IIJ)V", Cond.selects RX3 ⟨"PostingPlanner$PlannedClause", "restart", "(IIJ)V"⟩ yX0_restart, Cond.methodLink RX3 43 yX3_turn, Cond.instanceMethod yX3_turn, Cond.selects RX3 yX3_turn yX3_turn]
def wsL_clauseAt_r4 : List Cond := [Cond.code yX3_turn cX3_turn 2 none, Cond.fieldLink RX3 66 "PostingPlanner$PlannedClause" "kind" "I", Cond.sameField "PostingPlanner$PlannedClause" "PostingPlanner$Group" "kind" "I", Cond.fieldLink RX3 67 "PostingPlanner$PlannedClause" "need" "I", Cond.sameField "PostingPlanner$PlannedClause" "PostingPlanner$Group" "need" "I", Cond.methodLink RX3 47 ⟨"PostingPlanner$PlannedClause", "settleSome", "(I)V"⟩, Cond.sameMethod "PostingPlanner$PlannedClause" "PostingPlanner$Group" "settleSome" "(I)V", Cond.selects RX3 ⟨"PostingPlanner$PlannedClause", "settleSome", "(I)V"⟩ yX0_settleSome, Cond.instanceMethod yX0_settleSome, Cond.code yX0_settleSome cX0_settleSome 2 none, Cond.methodLink RX0 39 ⟨"PostingPlanner$Group", "fix", "(I)V"⟩, Cond.sameMethod "PostingPlanner$Group" "PostingPlanner$Group" "fix" "(I)V", Cond.selects RX2 ⟨"PostingPlanner$Group", "fix", "(I)V"⟩ yX0_fix, Cond.instanceMethod yX0_fix, Cond.code yX0_fix cX0_fix 2 none, Cond.selects RX3 ⟨"PostingPlanner$Group", "fix", "(I)V"⟩ yX0_fix, Cond.methodLink RX3 50 yX3_keepLiterals, Cond.instanceMethod yX3_keepLiterals, Cond.selects RX3 yX3_keepLiterals yX3_keepLiterals, Cond.code yX3_keepLiterals cX3_keepLiterals 7 none, Cond.fieldLink RX3 72 "PostingPlanner$ToldClause" "codes" "[I", Cond.fieldLink RX3 17 "PostingPlanner$PlannedClause" "literals" "[LPostingPlanner$PlannedLiteral;", Cond.methodLink RX3 68 ⟨"PostingPlanner$PlannedClause", "isFixed", "()Z"⟩, Cond.sameMethod "PostingPlanner$PlannedClause" "PostingPlanner$Group" "isFixed" "()Z"]
def wsL_clauseAt_r5 : List Cond := [Cond.selects RX3 ⟨"PostingPlanner$PlannedClause", "isFixed", "()Z"⟩ yX0_isFixed, Cond.static yX10_contraryOf, Cond.code yX10_contraryOf cX10_contraryOf 1 (some .int), Cond.methodLink RX3 80 ⟨"PostingPlanner$PlannedClause", "hasRank", "(I)Z"⟩, Cond.sameMethod "PostingPlanner$PlannedClause" "PostingPlanner$Group" "hasRank" "(I)Z", Cond.selects RX3 ⟨"PostingPlanner$PlannedClause", "hasRank", "(I)Z"⟩ yX0_hasRank, Cond.instanceMethod yX0_hasRank, Cond.code yX0_hasRank cX0_hasRank 4 (some .boolean), Cond.fieldLink RX0 36 "PostingPlanner$Part" "rank" "I", Cond.methodLink RX0 32 ⟨"PostingPlanner$Group", "partAt", "(I)LPostingPlanner$Part;"⟩, Cond.sameMethod "PostingPlanner$Group" "PostingPlanner$Group" "partAt" "(I)LPostingPlanner$Part;", Cond.selects RX2 ⟨"PostingPlanner$Group", "partAt", "(I)LPostingPlanner$Part;"⟩ yX0_partAt, Cond.instanceMethod yX0_partAt, Cond.code yX0_partAt cX0_partAt 2 (some (.object "PostingPlanner$Part")), Cond.fieldLink RX0 9 "PostingPlanner$Group" "parts" "[LPostingPlanner$Part;", Cond.selects RX3 ⟨"PostingPlanner$Group", "partAt", "(I)LPostingPlanner$Part;"⟩ yX0_partAt, Cond.methodLink RX3 84 yX7_truthsOf, Cond.instanceMethod yX7_truthsOf, Cond.selects RX7 yX7_truthsOf yX7_truthsOf, Cond.code yX7_truthsOf cX7_truthsOf 5 (some .long), Cond.static yX10_isLiteralTrue, Cond.code yX10_isLiteralTrue cX10_isLiteralTrue 2 (some .boolean), Cond.methodLink RX3 90 yX4_make, Cond.instanceMethod yX4_make]
def wsL_clauseAt_r6 : List Cond := [Cond.selects RX4 yX4_make yX4_make, Cond.initialized RX4, Cond.code yX4_make cX4_make 6 none, Cond.fieldLink RX4 15 "PostingPlanner$PlannedLiteral" "there" "J", Cond.fieldLink RX4 19 "PostingPlanner$PlannedLiteral" "truths" "J", Cond.fieldLink RX4 22 "PostingPlanner$PlannedLiteral" "rank" "I", Cond.sameField "PostingPlanner$PlannedLiteral" "PostingPlanner$Part" "rank" "I", Cond.fieldLink RX4 32 "PostingPlanner$PlannedLiteral" "estimate" "I", Cond.sameField "PostingPlanner$PlannedLiteral" "PostingPlanner$Part" "estimate" "I", Cond.fieldLink RX4 35 "PostingPlanner$PlannedLiteral" "place" "I", Cond.sameField "PostingPlanner$PlannedLiteral" "PostingPlanner$Part" "place" "I", Cond.methodLink RX4 26 yJ13_bitCount_95d88, Cond.static yJ13_bitCount_95d88, Cond.initialized RJ13, Cond.code yJ13_bitCount_95d88 cJ13_bitCount_95d88 2 (some .int), Cond.constantLong RJ13 314 (6148914691236517205), Cond.constantLong RJ13 316 (3689348814741910323), Cond.constantLong RJ13 318 (1085102592571150095), Cond.methodLink RX3 94 ⟨"PostingPlanner$PlannedClause", "keep", "(LPostingPlanner$Part;)V"⟩, Cond.sameMethod "PostingPlanner$PlannedClause" "PostingPlanner$Group" "keep" "(LPostingPlanner$Part;)V", Cond.selects RX3 ⟨"PostingPlanner$PlannedClause", "keep", "(LPostingPlanner$Part;)V"⟩ yX0_keep, Cond.instanceMethod yX0_keep, Cond.code yX0_keep cX0_keep 2 none, Cond.methodLink RX3 54 yX3_settleContraries]
def wsL_clauseAt_r7 : List Cond := [Cond.instanceMethod yX3_settleContraries, Cond.selects RX3 yX3_settleContraries yX3_settleContraries, Cond.code yX3_settleContraries cX3_settleContraries 3 none, Cond.fieldLink RX3 98 "PostingPlanner$PlannedClause" "size" "I", Cond.sameField "PostingPlanner$PlannedClause" "PostingPlanner$Group" "size" "I", Cond.fieldLink RX3 103 "PostingPlanner$Part" "rank" "I", Cond.methodLink RX3 99 ⟨"PostingPlanner$PlannedClause", "partAt", "(I)LPostingPlanner$Part;"⟩, Cond.sameMethod "PostingPlanner$PlannedClause" "PostingPlanner$Group" "partAt" "(I)LPostingPlanner$Part;", Cond.selects RX3 ⟨"PostingPlanner$PlannedClause", "partAt", "(I)LPostingPlanner$Part;"⟩ yX0_partAt, Cond.methodLink RX3 106 ⟨"PostingPlanner$PlannedClause", "fix", "(I)V"⟩, Cond.sameMethod "PostingPlanner$PlannedClause" "PostingPlanner$Group" "fix" "(I)V", Cond.selects RX3 ⟨"PostingPlanner$PlannedClause", "fix", "(I)V"⟩ yX0_fix, Cond.methodLink RX3 57 ⟨"PostingPlanner$PlannedClause", "settleEmpty", "()V"⟩, Cond.sameMethod "PostingPlanner$PlannedClause" "PostingPlanner$Group" "settleEmpty" "()V", Cond.selects RX3 ⟨"PostingPlanner$PlannedClause", "settleEmpty", "()V"⟩ yX0_settleEmpty, Cond.instanceMethod yX0_settleEmpty, Cond.code yX0_settleEmpty cX0_settleEmpty 1 none, Cond.methodLink RX3 60 ⟨"PostingPlanner$PlannedClause", "appraise", "()V"⟩, Cond.sameMethod "PostingPlanner$PlannedClause" "PostingPlanner$Group" "appraise" "()V", Cond.selects RX3 ⟨"PostingPlanner$PlannedClause", "appraise", "()V"⟩ yX0_appraise, Cond.instanceMethod yX0_appraise, Cond.code yX0_appraise cX0_appraise 2 none, Cond.fieldLink RX0 53 "PostingPlanner$Group" "estimate" "I", Cond.sameField "PostingPlanner$Group" "PostingPlanner$Part" "estimate" "I"]
def wsL_clauseAt_r8 : List Cond := [Cond.methodLink RX0 60 Lib.Math.min.name, Cond.static Lib.Math.min.name, Cond.initialized "java/lang/Math", Cond.code Lib.Math.min.name Lib.Math.min.code 2 (some .int), Cond.methodLink RX0 43 yJ13_bitCount_95d88, Cond.methodLink RX0 49 ⟨"PostingPlanner$Group", "leastEstimate", "(I)I"⟩, Cond.sameMethod "PostingPlanner$Group" "PostingPlanner$Group" "leastEstimate" "(I)I", Cond.selects RX2 ⟨"PostingPlanner$Group", "leastEstimate", "(I)I"⟩ yX0_leastEstimate, Cond.instanceMethod yX0_leastEstimate, Cond.code yX0_leastEstimate cX0_leastEstimate 5 (some .int), Cond.fieldLink RX0 66 "PostingPlanner$Part" "estimate" "I", Cond.selects RX3 ⟨"PostingPlanner$Group", "leastEstimate", "(I)I"⟩ yX0_leastEstimate, Cond.methodLink RX0 56 ⟨"PostingPlanner$Group", "sumOfEstimates", "()I"⟩, Cond.sameMethod "PostingPlanner$Group" "PostingPlanner$Group" "sumOfEstimates" "()I", Cond.selects RX2 ⟨"PostingPlanner$Group", "sumOfEstimates", "()I"⟩ yX0_sumOfEstimates, Cond.instanceMethod yX0_sumOfEstimates, Cond.code yX0_sumOfEstimates cX0_sumOfEstimates 4 (some .int), Cond.selects RX3 ⟨"PostingPlanner$Group", "sumOfEstimates", "()I"⟩ yX0_sumOfEstimates, Cond.methodLink RX3 63 ⟨"PostingPlanner$PlannedClause", "order", "()V"⟩, Cond.sameMethod "PostingPlanner$PlannedClause" "PostingPlanner$Group" "order" "()V", Cond.selects RX3 ⟨"PostingPlanner$PlannedClause", "order", "()V"⟩ yX0_order, Cond.instanceMethod yX0_order, Cond.code yX0_order cX0_order 4 none, Cond.methodLink RX0 67 ⟨"PostingPlanner$Group", "isBefore", "(LPostingPlanner$Part;LPostingPlanner$Part;)Z"⟩]
def wsL_clauseAt_r9 : List Cond := [Cond.sameMethod "PostingPlanner$Group" "PostingPlanner$Group" "isBefore" "(LPostingPlanner$Part;LPostingPlanner$Part;)Z", Cond.selects RX2 ⟨"PostingPlanner$Group", "isBefore", "(LPostingPlanner$Part;LPostingPlanner$Part;)Z"⟩ yX0_isBefore, Cond.instanceMethod yX0_isBefore, Cond.code yX0_isBefore cX0_isBefore 3 (some .boolean), Cond.selects RX3 ⟨"PostingPlanner$Group", "isBefore", "(LPostingPlanner$Part;LPostingPlanner$Part;)Z"⟩ yX0_isBefore, Cond.methodLink RX2 51 yX2_takeIn, Cond.instanceMethod yX2_takeIn, Cond.selects RX2 yX2_takeIn yX2_takeIn, Cond.code yX2_takeIn cX2_takeIn 2 none, Cond.fieldLink RX2 76 "PostingPlanner$PlannedClause" "kind" "I", Cond.fieldLink RX2 77 "PostingPlanner$Plan" "kind" "I", Cond.sameField "PostingPlanner$Plan" "PostingPlanner$Group" "kind" "I", Cond.fieldLink RX2 78 "PostingPlanner$Plan" "need" "I", Cond.sameField "PostingPlanner$Plan" "PostingPlanner$Group" "need" "I", Cond.methodLink RX2 71 ⟨"PostingPlanner$PlannedClause", "isFixed", "()Z"⟩, Cond.methodLink RX2 72 ⟨"PostingPlanner$Plan", "keep", "(LPostingPlanner$Part;)V"⟩, Cond.sameMethod "PostingPlanner$Plan" "PostingPlanner$Group" "keep" "(LPostingPlanner$Part;)V", Cond.selects RX2 ⟨"PostingPlanner$Plan", "keep", "(LPostingPlanner$Part;)V"⟩ yX0_keep, Cond.methodLink RX2 79 ⟨"PostingPlanner$Plan", "fix", "(I)V"⟩, Cond.sameMethod "PostingPlanner$Plan" "PostingPlanner$Group" "fix" "(I)V", Cond.selects RX2 ⟨"PostingPlanner$Plan", "fix", "(I)V"⟩ yX0_fix, Cond.methodLink RX2 58 ⟨"PostingPlanner$Plan", "settleSome", "(I)V"⟩, Cond.sameMethod "PostingPlanner$Plan" "PostingPlanner$Group" "settleSome" "(I)V", Cond.selects RX2 ⟨"PostingPlanner$Plan", "settleSome", "(I)V"⟩ yX0_settleSome]
def wsL_clauseAt_r10 : List Cond := [Cond.methodLink RX2 62 ⟨"PostingPlanner$Plan", "settleEmpty", "()V"⟩, Cond.sameMethod "PostingPlanner$Plan" "PostingPlanner$Group" "settleEmpty" "()V", Cond.selects RX2 ⟨"PostingPlanner$Plan", "settleEmpty", "()V"⟩ yX0_settleEmpty, Cond.methodLink RX2 65 ⟨"PostingPlanner$Plan", "appraise", "()V"⟩, Cond.sameMethod "PostingPlanner$Plan" "PostingPlanner$Group" "appraise" "()V", Cond.selects RX2 ⟨"PostingPlanner$Plan", "appraise", "()V"⟩ yX0_appraise, Cond.methodLink RX2 68 ⟨"PostingPlanner$Plan", "order", "()V"⟩, Cond.sameMethod "PostingPlanner$Plan" "PostingPlanner$Group" "order" "()V", Cond.selects RX2 ⟨"PostingPlanner$Plan", "order", "()V"⟩ yX0_order, Cond.methodLink RX10 189 yX2_plannedAt, Cond.instanceMethod yX2_plannedAt, Cond.selects RX2 yX2_plannedAt yX2_plannedAt, Cond.code yX2_plannedAt cX2_plannedAt 3 (some (.object "PostingPlanner$PlannedClause")), Cond.fieldLink RX2 86 "PostingPlanner$Part" "rank" "I", Cond.methodLink RX2 82 ⟨"PostingPlanner$Plan", "partAt", "(I)LPostingPlanner$Part;"⟩, Cond.sameMethod "PostingPlanner$Plan" "PostingPlanner$Group" "partAt" "(I)LPostingPlanner$Part;", Cond.selects RX2 ⟨"PostingPlanner$Plan", "partAt", "(I)LPostingPlanner$Part;"⟩ yX0_partAt]
def wsL_clauseAt : List Cond := .codeWith yL_clauseAt cL_clauseAt 4 (some .int) [(0, 9, 12, 15)] :: ((wsL_clauseAt_r1 ++ (wsL_clauseAt_r2 ++ (wsL_clauseAt_r3 ++ (wsL_clauseAt_r4 ++ (wsL_clauseAt_r5 ++ (wsL_clauseAt_r6 ++ (wsL_clauseAt_r7 ++ (wsL_clauseAt_r8 ++ (wsL_clauseAt_r9 ++ wsL_clauseAt_r10))))))))) ++ wsX20 ++ wsX30 ++ wsX40 ++ wsX100 ++ wsX50 ++ wsX70 ++ wsX90 ++ (vx_atS RX10 50 "java/lang/IllegalArgumentException" ["java/lang/RuntimeException", "java/lang/Exception"]).filter goodWord)
def wsL_kindAt_r1 : List Cond := [Cond.classLink RL 15 "java/lang/IllegalArgumentException", Cond.methodLink RL 44 yX10_kindAt, Cond.instanceMethod yX10_kindAt, Cond.selects RX10 yX10_kindAt yX10_kindAt, Cond.initialized RX10, Cond.code yX10_kindAt cX10_kindAt 2 (some .int), Cond.fieldLink RX10 141 "PostingPlanner$PlannedClause" "kind" "I", Cond.sameField "PostingPlanner$PlannedClause" "PostingPlanner$Group" "kind" "I", Cond.methodLink RX10 132 yX10_plannedClause, Cond.instanceMethod yX10_plannedClause, Cond.selects RX10 yX10_plannedClause yX10_plannedClause, Cond.code yX10_plannedClause cX10_plannedClause 3 (some (.object "PostingPlanner$PlannedClause")), Cond.classLink RX10 46 "java/lang/IllegalArgumentException", Cond.initialized "java/lang/IllegalArgumentException", Cond.fieldLink RX10 31 "PostingPlanner" "plan" "LPostingPlanner$Plan;", Cond.fieldLink RX10 19 "PostingPlanner" "question" "LPostingPlanner$Question;", Cond.fieldLink RX10 10 "PostingPlanner" "shelf" "LPostingPlanner$Shelf;", Cond.methodLink RX10 118 yX2_make, Cond.instanceMethod yX2_make, Cond.selects RX2 yX2_make yX2_make, Cond.initialized RX2, Cond.code yX2_make cX2_make 7 none, Cond.fieldLink RX2 26 "PostingPlanner$Question" "kind" "I", Cond.fieldLink RX2 32 "PostingPlanner$Question" "need" "I"]
def wsL_kindAt_r2 : List Cond := [Cond.fieldLink RX2 11 "PostingPlanner$Plan" "clauses" "[LPostingPlanner$PlannedClause;", Cond.fieldLink RX2 55 "PostingPlanner$Plan" "size" "I", Cond.sameField "PostingPlanner$Plan" "PostingPlanner$Group" "size" "I", Cond.methodLink RX2 20 yX7_allThere, Cond.instanceMethod yX7_allThere, Cond.selects RX7 yX7_allThere yX7_allThere, Cond.initialized RX7, Cond.code yX7_allThere cX7_allThere 4 (some .long), Cond.fieldLink RX7 9 "PostingPlanner$Shelf" "words" "[I", Cond.methodLink RX2 35 ⟨"PostingPlanner$Plan", "restart", "(IIJ)V"⟩, Cond.sameMethod "PostingPlanner$Plan" "PostingPlanner$Group" "restart" "(IIJ)V", Cond.selects RX2 ⟨"PostingPlanner$Plan", "restart", "(IIJ)V"⟩ yX0_restart, Cond.instanceMethod yX0_restart, Cond.initialized RX0, Cond.code yX0_restart cX0_restart 5 none, Cond.fieldLink RX0 15 "PostingPlanner$Group" "kind" "I", Cond.fieldLink RX0 19 "PostingPlanner$Group" "need" "I", Cond.fieldLink RX0 22 "PostingPlanner$Group" "size" "I", Cond.fieldLink RX0 25 "PostingPlanner$Group" "there" "J", Cond.fieldLink RX0 29 "PostingPlanner$Group" "place" "I", Cond.sameField "PostingPlanner$Group" "PostingPlanner$Part" "place" "I", Cond.methodLink RX2 39 ⟨"PostingPlanner$Plan", "isFixed", "()Z"⟩, Cond.sameMethod "PostingPlanner$Plan" "PostingPlanner$Group" "isFixed" "()Z", Cond.selects RX2 ⟨"PostingPlanner$Plan", "isFixed", "()Z"⟩ yX0_isFixed]
def wsL_kindAt_r3 : List Cond := [Cond.instanceMethod yX0_isFixed, Cond.code yX0_isFixed cX0_isFixed 1 (some .boolean), Cond.methodLink RX2 43 yX5_toldAt, Cond.instanceMethod yX5_toldAt, Cond.selects RX5 yX5_toldAt yX5_toldAt, Cond.initialized RX5, Cond.code yX5_toldAt cX5_toldAt 2 (some (.object "PostingPlanner$ToldClause")), Cond.fieldLink RX5 22 "PostingPlanner$Question" "size" "I", Cond.fieldLink RX5 11 "PostingPlanner$Question" "clauses" "[LPostingPlanner$ToldClause;", Cond.methodLink RX2 47 yX3_make, Cond.instanceMethod yX3_make, Cond.selects RX3 yX3_make yX3_make, Cond.initialized RX3, Cond.code yX3_make cX3_make 5 none, Cond.fieldLink RX3 24 "PostingPlanner$ToldClause" "kind" "I", Cond.fieldLink RX3 29 "PostingPlanner$ToldClause" "need" "I", Cond.fieldLink RX3 36 "PostingPlanner$ToldClause" "isNegated" "Z", Cond.fieldLink RX3 40 "PostingPlanner$ToldClause" "size" "I", Cond.methodLink RX3 32 ⟨"PostingPlanner$PlannedClause", "restart", "(IIJ)V"⟩, Cond.sameMethod "PostingPlanner$PlannedClause" "PostingPlanner$Group" "restart" "(IIJ)V", Cond.selects RX3 ⟨"PostingPlanner$PlannedClause", "restart", "(IIJ)V"⟩ yX0_restart, Cond.methodLink RX3 43 yX3_turn, Cond.instanceMethod yX3_turn, Cond.selects RX3 yX3_turn yX3_turn]
def wsL_kindAt_r4 : List Cond := [Cond.code yX3_turn cX3_turn 2 none, Cond.fieldLink RX3 66 "PostingPlanner$PlannedClause" "kind" "I", Cond.fieldLink RX3 67 "PostingPlanner$PlannedClause" "need" "I", Cond.sameField "PostingPlanner$PlannedClause" "PostingPlanner$Group" "need" "I", Cond.methodLink RX3 47 ⟨"PostingPlanner$PlannedClause", "settleSome", "(I)V"⟩, Cond.sameMethod "PostingPlanner$PlannedClause" "PostingPlanner$Group" "settleSome" "(I)V", Cond.selects RX3 ⟨"PostingPlanner$PlannedClause", "settleSome", "(I)V"⟩ yX0_settleSome, Cond.instanceMethod yX0_settleSome, Cond.code yX0_settleSome cX0_settleSome 2 none, Cond.methodLink RX0 39 ⟨"PostingPlanner$Group", "fix", "(I)V"⟩, Cond.sameMethod "PostingPlanner$Group" "PostingPlanner$Group" "fix" "(I)V", Cond.selects RX2 ⟨"PostingPlanner$Group", "fix", "(I)V"⟩ yX0_fix, Cond.instanceMethod yX0_fix, Cond.code yX0_fix cX0_fix 2 none, Cond.selects RX3 ⟨"PostingPlanner$Group", "fix", "(I)V"⟩ yX0_fix, Cond.methodLink RX3 50 yX3_keepLiterals, Cond.instanceMethod yX3_keepLiterals, Cond.selects RX3 yX3_keepLiterals yX3_keepLiterals, Cond.code yX3_keepLiterals cX3_keepLiterals 7 none, Cond.fieldLink RX3 72 "PostingPlanner$ToldClause" "codes" "[I", Cond.fieldLink RX3 17 "PostingPlanner$PlannedClause" "literals" "[LPostingPlanner$PlannedLiteral;", Cond.methodLink RX3 68 ⟨"PostingPlanner$PlannedClause", "isFixed", "()Z"⟩, Cond.sameMethod "PostingPlanner$PlannedClause" "PostingPlanner$Group" "isFixed" "()Z", Cond.selects RX3 ⟨"PostingPlanner$PlannedClause", "isFixed", "()Z"⟩ yX0_isFixed]
def wsL_kindAt_r5 : List Cond := [Cond.static yX10_contraryOf, Cond.code yX10_contraryOf cX10_contraryOf 1 (some .int), Cond.methodLink RX3 80 ⟨"PostingPlanner$PlannedClause", "hasRank", "(I)Z"⟩, Cond.sameMethod "PostingPlanner$PlannedClause" "PostingPlanner$Group" "hasRank" "(I)Z", Cond.selects RX3 ⟨"PostingPlanner$PlannedClause", "hasRank", "(I)Z"⟩ yX0_hasRank, Cond.instanceMethod yX0_hasRank, Cond.code yX0_hasRank cX0_hasRank 4 (some .boolean), Cond.fieldLink RX0 36 "PostingPlanner$Part" "rank" "I", Cond.methodLink RX0 32 ⟨"PostingPlanner$Group", "partAt", "(I)LPostingPlanner$Part;"⟩, Cond.sameMethod "PostingPlanner$Group" "PostingPlanner$Group" "partAt" "(I)LPostingPlanner$Part;", Cond.selects RX2 ⟨"PostingPlanner$Group", "partAt", "(I)LPostingPlanner$Part;"⟩ yX0_partAt, Cond.instanceMethod yX0_partAt, Cond.code yX0_partAt cX0_partAt 2 (some (.object "PostingPlanner$Part")), Cond.fieldLink RX0 9 "PostingPlanner$Group" "parts" "[LPostingPlanner$Part;", Cond.selects RX3 ⟨"PostingPlanner$Group", "partAt", "(I)LPostingPlanner$Part;"⟩ yX0_partAt, Cond.methodLink RX3 84 yX7_truthsOf, Cond.instanceMethod yX7_truthsOf, Cond.selects RX7 yX7_truthsOf yX7_truthsOf, Cond.code yX7_truthsOf cX7_truthsOf 5 (some .long), Cond.static yX10_isLiteralTrue, Cond.code yX10_isLiteralTrue cX10_isLiteralTrue 2 (some .boolean), Cond.methodLink RX3 90 yX4_make, Cond.instanceMethod yX4_make, Cond.selects RX4 yX4_make yX4_make]
def wsL_kindAt_r6 : List Cond := [Cond.initialized RX4, Cond.code yX4_make cX4_make 6 none, Cond.fieldLink RX4 15 "PostingPlanner$PlannedLiteral" "there" "J", Cond.fieldLink RX4 19 "PostingPlanner$PlannedLiteral" "truths" "J", Cond.fieldLink RX4 22 "PostingPlanner$PlannedLiteral" "rank" "I", Cond.sameField "PostingPlanner$PlannedLiteral" "PostingPlanner$Part" "rank" "I", Cond.fieldLink RX4 32 "PostingPlanner$PlannedLiteral" "estimate" "I", Cond.sameField "PostingPlanner$PlannedLiteral" "PostingPlanner$Part" "estimate" "I", Cond.fieldLink RX4 35 "PostingPlanner$PlannedLiteral" "place" "I", Cond.sameField "PostingPlanner$PlannedLiteral" "PostingPlanner$Part" "place" "I", Cond.methodLink RX4 26 yJ13_bitCount_95d88, Cond.static yJ13_bitCount_95d88, Cond.initialized RJ13, Cond.code yJ13_bitCount_95d88 cJ13_bitCount_95d88 2 (some .int), Cond.constantLong RJ13 314 (6148914691236517205), Cond.constantLong RJ13 316 (3689348814741910323), Cond.constantLong RJ13 318 (1085102592571150095), Cond.methodLink RX3 94 ⟨"PostingPlanner$PlannedClause", "keep", "(LPostingPlanner$Part;)V"⟩, Cond.sameMethod "PostingPlanner$PlannedClause" "PostingPlanner$Group" "keep" "(LPostingPlanner$Part;)V", Cond.selects RX3 ⟨"PostingPlanner$PlannedClause", "keep", "(LPostingPlanner$Part;)V"⟩ yX0_keep, Cond.instanceMethod yX0_keep, Cond.code yX0_keep cX0_keep 2 none, Cond.methodLink RX3 54 yX3_settleContraries, Cond.instanceMethod yX3_settleContraries]
def wsL_kindAt_r7 : List Cond := [Cond.selects RX3 yX3_settleContraries yX3_settleContraries, Cond.code yX3_settleContraries cX3_settleContraries 3 none, Cond.fieldLink RX3 98 "PostingPlanner$PlannedClause" "size" "I", Cond.sameField "PostingPlanner$PlannedClause" "PostingPlanner$Group" "size" "I", Cond.fieldLink RX3 103 "PostingPlanner$Part" "rank" "I", Cond.methodLink RX3 99 ⟨"PostingPlanner$PlannedClause", "partAt", "(I)LPostingPlanner$Part;"⟩, Cond.sameMethod "PostingPlanner$PlannedClause" "PostingPlanner$Group" "partAt" "(I)LPostingPlanner$Part;", Cond.selects RX3 ⟨"PostingPlanner$PlannedClause", "partAt", "(I)LPostingPlanner$Part;"⟩ yX0_partAt, Cond.methodLink RX3 106 ⟨"PostingPlanner$PlannedClause", "fix", "(I)V"⟩, Cond.sameMethod "PostingPlanner$PlannedClause" "PostingPlanner$Group" "fix" "(I)V", Cond.selects RX3 ⟨"PostingPlanner$PlannedClause", "fix", "(I)V"⟩ yX0_fix, Cond.methodLink RX3 57 ⟨"PostingPlanner$PlannedClause", "settleEmpty", "()V"⟩, Cond.sameMethod "PostingPlanner$PlannedClause" "PostingPlanner$Group" "settleEmpty" "()V", Cond.selects RX3 ⟨"PostingPlanner$PlannedClause", "settleEmpty", "()V"⟩ yX0_settleEmpty, Cond.instanceMethod yX0_settleEmpty, Cond.code yX0_settleEmpty cX0_settleEmpty 1 none, Cond.methodLink RX3 60 ⟨"PostingPlanner$PlannedClause", "appraise", "()V"⟩, Cond.sameMethod "PostingPlanner$PlannedClause" "PostingPlanner$Group" "appraise" "()V", Cond.selects RX3 ⟨"PostingPlanner$PlannedClause", "appraise", "()V"⟩ yX0_appraise, Cond.instanceMethod yX0_appraise, Cond.code yX0_appraise cX0_appraise 2 none, Cond.fieldLink RX0 53 "PostingPlanner$Group" "estimate" "I", Cond.sameField "PostingPlanner$Group" "PostingPlanner$Part" "estimate" "I", Cond.methodLink RX0 60 Lib.Math.min.name]
def wsL_kindAt_r8 : List Cond := [Cond.static Lib.Math.min.name, Cond.initialized "java/lang/Math", Cond.code Lib.Math.min.name Lib.Math.min.code 2 (some .int), Cond.methodLink RX0 43 yJ13_bitCount_95d88, Cond.methodLink RX0 49 ⟨"PostingPlanner$Group", "leastEstimate", "(I)I"⟩, Cond.sameMethod "PostingPlanner$Group" "PostingPlanner$Group" "leastEstimate" "(I)I", Cond.selects RX2 ⟨"PostingPlanner$Group", "leastEstimate", "(I)I"⟩ yX0_leastEstimate, Cond.instanceMethod yX0_leastEstimate, Cond.code yX0_leastEstimate cX0_leastEstimate 5 (some .int), Cond.fieldLink RX0 66 "PostingPlanner$Part" "estimate" "I", Cond.selects RX3 ⟨"PostingPlanner$Group", "leastEstimate", "(I)I"⟩ yX0_leastEstimate, Cond.methodLink RX0 56 ⟨"PostingPlanner$Group", "sumOfEstimates", "()I"⟩, Cond.sameMethod "PostingPlanner$Group" "PostingPlanner$Group" "sumOfEstimates" "()I", Cond.selects RX2 ⟨"PostingPlanner$Group", "sumOfEstimates", "()I"⟩ yX0_sumOfEstimates, Cond.instanceMethod yX0_sumOfEstimates, Cond.code yX0_sumOfEstimates cX0_sumOfEstimates 4 (some .int), Cond.selects RX3 ⟨"PostingPlanner$Group", "sumOfEstimates", "()I"⟩ yX0_sumOfEstimates, Cond.methodLink RX3 63 ⟨"PostingPlanner$PlannedClause", "order", "()V"⟩, Cond.sameMethod "PostingPlanner$PlannedClause" "PostingPlanner$Group" "order" "()V", Cond.selects RX3 ⟨"PostingPlanner$PlannedClause", "order", "()V"⟩ yX0_order, Cond.instanceMethod yX0_order, Cond.code yX0_order cX0_order 4 none, Cond.methodLink RX0 67 ⟨"PostingPlanner$Group", "isBefore", "(LPostingPlanner$Part;LPostingPlanner$Part;)Z"⟩, Cond.sameMethod "PostingPlanner$Group" "PostingPlanner$Group" "isBefore" "(LPostingPlanner$Part;LPostingPlanner$Part;)Z"]
def wsL_kindAt_r9 : List Cond := [Cond.selects RX2 ⟨"PostingPlanner$Group", "isBefore", "(LPostingPlanner$Part;LPostingPlanner$Part;)Z"⟩ yX0_isBefore, Cond.instanceMethod yX0_isBefore, Cond.code yX0_isBefore cX0_isBefore 3 (some .boolean), Cond.selects RX3 ⟨"PostingPlanner$Group", "isBefore", "(LPostingPlanner$Part;LPostingPlanner$Part;)Z"⟩ yX0_isBefore, Cond.methodLink RX2 51 yX2_takeIn, Cond.instanceMethod yX2_takeIn, Cond.selects RX2 yX2_takeIn yX2_takeIn, Cond.code yX2_takeIn cX2_takeIn 2 none, Cond.fieldLink RX2 76 "PostingPlanner$PlannedClause" "kind" "I", Cond.fieldLink RX2 77 "PostingPlanner$Plan" "kind" "I", Cond.sameField "PostingPlanner$Plan" "PostingPlanner$Group" "kind" "I", Cond.fieldLink RX2 78 "PostingPlanner$Plan" "need" "I", Cond.sameField "PostingPlanner$Plan" "PostingPlanner$Group" "need" "I", Cond.methodLink RX2 71 ⟨"PostingPlanner$PlannedClause", "isFixed", "()Z"⟩, Cond.methodLink RX2 72 ⟨"PostingPlanner$Plan", "keep", "(LPostingPlanner$Part;)V"⟩, Cond.sameMethod "PostingPlanner$Plan" "PostingPlanner$Group" "keep" "(LPostingPlanner$Part;)V", Cond.selects RX2 ⟨"PostingPlanner$Plan", "keep", "(LPostingPlanner$Part;)V"⟩ yX0_keep, Cond.methodLink RX2 79 ⟨"PostingPlanner$Plan", "fix", "(I)V"⟩, Cond.sameMethod "PostingPlanner$Plan" "PostingPlanner$Group" "fix" "(I)V", Cond.selects RX2 ⟨"PostingPlanner$Plan", "fix", "(I)V"⟩ yX0_fix, Cond.methodLink RX2 58 ⟨"PostingPlanner$Plan", "settleSome", "(I)V"⟩, Cond.sameMethod "PostingPlanner$Plan" "PostingPlanner$Group" "settleSome" "(I)V", Cond.selects RX2 ⟨"PostingPlanner$Plan", "settleSome", "(I)V"⟩ yX0_settleSome, Cond.methodLink RX2 62 ⟨"PostingPlanner$Plan", "settleEmpty", "()V"⟩]
def wsL_kindAt_r10 : List Cond := [Cond.sameMethod "PostingPlanner$Plan" "PostingPlanner$Group" "settleEmpty" "()V", Cond.selects RX2 ⟨"PostingPlanner$Plan", "settleEmpty", "()V"⟩ yX0_settleEmpty, Cond.methodLink RX2 65 ⟨"PostingPlanner$Plan", "appraise", "()V"⟩, Cond.sameMethod "PostingPlanner$Plan" "PostingPlanner$Group" "appraise" "()V", Cond.selects RX2 ⟨"PostingPlanner$Plan", "appraise", "()V"⟩ yX0_appraise, Cond.methodLink RX2 68 ⟨"PostingPlanner$Plan", "order", "()V"⟩, Cond.sameMethod "PostingPlanner$Plan" "PostingPlanner$Group" "order" "()V", Cond.selects RX2 ⟨"PostingPlanner$Plan", "order", "()V"⟩ yX0_order, Cond.methodLink RX10 189 yX2_plannedAt, Cond.instanceMethod yX2_plannedAt, Cond.selects RX2 yX2_plannedAt yX2_plannedAt, Cond.code yX2_plannedAt cX2_plannedAt 3 (some (.object "PostingPlanner$PlannedClause")), Cond.fieldLink RX2 86 "PostingPlanner$Part" "rank" "I", Cond.methodLink RX2 82 ⟨"PostingPlanner$Plan", "partAt", "(I)LPostingPlanner$Part;"⟩, Cond.sameMethod "PostingPlanner$Plan" "PostingPlanner$Group" "partAt" "(I)LPostingPlanner$Part;", Cond.selects RX2 ⟨"PostingPlanner$Plan", "partAt", "(I)LPostingPlanner$Part;"⟩ yX0_partAt]
def wsL_kindAt : List Cond := .codeWith yL_kindAt cL_kindAt 4 (some .int) [(0, 9, 12, 15)] :: ((wsL_kindAt_r1 ++ (wsL_kindAt_r2 ++ (wsL_kindAt_r3 ++ (wsL_kindAt_r4 ++ (wsL_kindAt_r5 ++ (wsL_kindAt_r6 ++ (wsL_kindAt_r7 ++ (wsL_kindAt_r8 ++ (wsL_kindAt_r9 ++ wsL_kindAt_r10))))))))) ++ wsX20 ++ wsX30 ++ wsX100 ++ wsX50 ++ wsX70 ++ wsX40 ++ wsX90 ++ (vx_atS RX10 50 "java/lang/IllegalArgumentException" ["java/lang/RuntimeException", "java/lang/Exception"]).filter goodWord)
def wsL_estimateAt_r1 : List Cond := [Cond.classLink RL 15 "java/lang/IllegalArgumentException", Cond.methodLink RL 47 yX10_estimateAt, Cond.instanceMethod yX10_estimateAt, Cond.selects RX10 yX10_estimateAt yX10_estimateAt, Cond.initialized RX10, Cond.code yX10_estimateAt cX10_estimateAt 2 (some .int), Cond.fieldLink RX10 142 "PostingPlanner$PlannedClause" "estimate" "I", Cond.sameField "PostingPlanner$PlannedClause" "PostingPlanner$Part" "estimate" "I", Cond.methodLink RX10 132 yX10_plannedClause, Cond.instanceMethod yX10_plannedClause, Cond.selects RX10 yX10_plannedClause yX10_plannedClause, Cond.code yX10_plannedClause cX10_plannedClause 3 (some (.object "PostingPlanner$PlannedClause")), Cond.classLink RX10 46 "java/lang/IllegalArgumentException", Cond.initialized "java/lang/IllegalArgumentException", Cond.fieldLink RX10 31 "PostingPlanner" "plan" "LPostingPlanner$Plan;", Cond.fieldLink RX10 19 "PostingPlanner" "question" "LPostingPlanner$Question;", Cond.fieldLink RX10 10 "PostingPlanner" "shelf" "LPostingPlanner$Shelf;", Cond.methodLink RX10 118 yX2_make, Cond.instanceMethod yX2_make, Cond.selects RX2 yX2_make yX2_make, Cond.initialized RX2, Cond.code yX2_make cX2_make 7 none, Cond.fieldLink RX2 26 "PostingPlanner$Question" "kind" "I", Cond.fieldLink RX2 32 "PostingPlanner$Question" "need" "I"]
def wsL_estimateAt_r2 : List Cond := [Cond.fieldLink RX2 11 "PostingPlanner$Plan" "clauses" "[LPostingPlanner$PlannedClause;", Cond.fieldLink RX2 55 "PostingPlanner$Plan" "size" "I", Cond.sameField "PostingPlanner$Plan" "PostingPlanner$Group" "size" "I", Cond.methodLink RX2 20 yX7_allThere, Cond.instanceMethod yX7_allThere, Cond.selects RX7 yX7_allThere yX7_allThere, Cond.initialized RX7, Cond.code yX7_allThere cX7_allThere 4 (some .long), Cond.fieldLink RX7 9 "PostingPlanner$Shelf" "words" "[I", Cond.methodLink RX2 35 ⟨"PostingPlanner$Plan", "restart", "(IIJ)V"⟩, Cond.sameMethod "PostingPlanner$Plan" "PostingPlanner$Group" "restart" "(IIJ)V", Cond.selects RX2 ⟨"PostingPlanner$Plan", "restart", "(IIJ)V"⟩ yX0_restart, Cond.instanceMethod yX0_restart, Cond.initialized RX0, Cond.code yX0_restart cX0_restart 5 none, Cond.fieldLink RX0 15 "PostingPlanner$Group" "kind" "I", Cond.fieldLink RX0 19 "PostingPlanner$Group" "need" "I", Cond.fieldLink RX0 22 "PostingPlanner$Group" "size" "I", Cond.fieldLink RX0 25 "PostingPlanner$Group" "there" "J", Cond.fieldLink RX0 29 "PostingPlanner$Group" "place" "I", Cond.sameField "PostingPlanner$Group" "PostingPlanner$Part" "place" "I", Cond.methodLink RX2 39 ⟨"PostingPlanner$Plan", "isFixed", "()Z"⟩, Cond.sameMethod "PostingPlanner$Plan" "PostingPlanner$Group" "isFixed" "()Z", Cond.selects RX2 ⟨"PostingPlanner$Plan", "isFixed", "()Z"⟩ yX0_isFixed]
def wsL_estimateAt_r3 : List Cond := [Cond.instanceMethod yX0_isFixed, Cond.code yX0_isFixed cX0_isFixed 1 (some .boolean), Cond.methodLink RX2 43 yX5_toldAt, Cond.instanceMethod yX5_toldAt, Cond.selects RX5 yX5_toldAt yX5_toldAt, Cond.initialized RX5, Cond.code yX5_toldAt cX5_toldAt 2 (some (.object "PostingPlanner$ToldClause")), Cond.fieldLink RX5 22 "PostingPlanner$Question" "size" "I", Cond.fieldLink RX5 11 "PostingPlanner$Question" "clauses" "[LPostingPlanner$ToldClause;", Cond.methodLink RX2 47 yX3_make, Cond.instanceMethod yX3_make, Cond.selects RX3 yX3_make yX3_make, Cond.initialized RX3, Cond.code yX3_make cX3_make 5 none, Cond.fieldLink RX3 24 "PostingPlanner$ToldClause" "kind" "I", Cond.fieldLink RX3 29 "PostingPlanner$ToldClause" "need" "I", Cond.fieldLink RX3 36 "PostingPlanner$ToldClause" "isNegated" "Z", Cond.fieldLink RX3 40 "PostingPlanner$ToldClause" "size" "I", Cond.methodLink RX3 32 ⟨"PostingPlanner$PlannedClause", "restart", "(IIJ)V"⟩, Cond.sameMethod "PostingPlanner$PlannedClause" "PostingPlanner$Group" "restart" "(IIJ)V", Cond.selects RX3 ⟨"PostingPlanner$PlannedClause", "restart", "(IIJ)V"⟩ yX0_restart, Cond.methodLink RX3 43 yX3_turn, Cond.instanceMethod yX3_turn, Cond.selects RX3 yX3_turn yX3_turn]
def wsL_estimateAt_r4 : List Cond := [Cond.code yX3_turn cX3_turn 2 none, Cond.fieldLink RX3 66 "PostingPlanner$PlannedClause" "kind" "I", Cond.sameField "PostingPlanner$PlannedClause" "PostingPlanner$Group" "kind" "I", Cond.fieldLink RX3 67 "PostingPlanner$PlannedClause" "need" "I", Cond.sameField "PostingPlanner$PlannedClause" "PostingPlanner$Group" "need" "I", Cond.methodLink RX3 47 ⟨"PostingPlanner$PlannedClause", "settleSome", "(I)V"⟩, Cond.sameMethod "PostingPlanner$PlannedClause" "PostingPlanner$Group" "settleSome" "(I)V", Cond.selects RX3 ⟨"PostingPlanner$PlannedClause", "settleSome", "(I)V"⟩ yX0_settleSome, Cond.instanceMethod yX0_settleSome, Cond.code yX0_settleSome cX0_settleSome 2 none, Cond.methodLink RX0 39 ⟨"PostingPlanner$Group", "fix", "(I)V"⟩, Cond.sameMethod "PostingPlanner$Group" "PostingPlanner$Group" "fix" "(I)V", Cond.selects RX2 ⟨"PostingPlanner$Group", "fix", "(I)V"⟩ yX0_fix, Cond.instanceMethod yX0_fix, Cond.code yX0_fix cX0_fix 2 none, Cond.selects RX3 ⟨"PostingPlanner$Group", "fix", "(I)V"⟩ yX0_fix, Cond.methodLink RX3 50 yX3_keepLiterals, Cond.instanceMethod yX3_keepLiterals, Cond.selects RX3 yX3_keepLiterals yX3_keepLiterals, Cond.code yX3_keepLiterals cX3_keepLiterals 7 none, Cond.fieldLink RX3 72 "PostingPlanner$ToldClause" "codes" "[I", Cond.fieldLink RX3 17 "PostingPlanner$PlannedClause" "literals" "[LPostingPlanner$PlannedLiteral;", Cond.methodLink RX3 68 ⟨"PostingPlanner$PlannedClause", "isFixed", "()Z"⟩, Cond.sameMethod "PostingPlanner$PlannedClause" "PostingPlanner$Group" "isFixed" "()Z"]
def wsL_estimateAt_r5 : List Cond := [Cond.selects RX3 ⟨"PostingPlanner$PlannedClause", "isFixed", "()Z"⟩ yX0_isFixed, Cond.static yX10_contraryOf, Cond.code yX10_contraryOf cX10_contraryOf 1 (some .int), Cond.methodLink RX3 80 ⟨"PostingPlanner$PlannedClause", "hasRank", "(I)Z"⟩, Cond.sameMethod "PostingPlanner$PlannedClause" "PostingPlanner$Group" "hasRank" "(I)Z", Cond.selects RX3 ⟨"PostingPlanner$PlannedClause", "hasRank", "(I)Z"⟩ yX0_hasRank, Cond.instanceMethod yX0_hasRank, Cond.code yX0_hasRank cX0_hasRank 4 (some .boolean), Cond.fieldLink RX0 36 "PostingPlanner$Part" "rank" "I", Cond.methodLink RX0 32 ⟨"PostingPlanner$Group", "partAt", "(I)LPostingPlanner$Part;"⟩, Cond.sameMethod "PostingPlanner$Group" "PostingPlanner$Group" "partAt" "(I)LPostingPlanner$Part;", Cond.selects RX2 ⟨"PostingPlanner$Group", "partAt", "(I)LPostingPlanner$Part;"⟩ yX0_partAt, Cond.instanceMethod yX0_partAt, Cond.code yX0_partAt cX0_partAt 2 (some (.object "PostingPlanner$Part")), Cond.fieldLink RX0 9 "PostingPlanner$Group" "parts" "[LPostingPlanner$Part;", Cond.selects RX3 ⟨"PostingPlanner$Group", "partAt", "(I)LPostingPlanner$Part;"⟩ yX0_partAt, Cond.methodLink RX3 84 yX7_truthsOf, Cond.instanceMethod yX7_truthsOf, Cond.selects RX7 yX7_truthsOf yX7_truthsOf, Cond.code yX7_truthsOf cX7_truthsOf 5 (some .long), Cond.static yX10_isLiteralTrue, Cond.code yX10_isLiteralTrue cX10_isLiteralTrue 2 (some .boolean), Cond.methodLink RX3 90 yX4_make, Cond.instanceMethod yX4_make]
def wsL_estimateAt_r6 : List Cond := [Cond.selects RX4 yX4_make yX4_make, Cond.initialized RX4, Cond.code yX4_make cX4_make 6 none, Cond.fieldLink RX4 15 "PostingPlanner$PlannedLiteral" "there" "J", Cond.fieldLink RX4 19 "PostingPlanner$PlannedLiteral" "truths" "J", Cond.fieldLink RX4 22 "PostingPlanner$PlannedLiteral" "rank" "I", Cond.sameField "PostingPlanner$PlannedLiteral" "PostingPlanner$Part" "rank" "I", Cond.fieldLink RX4 32 "PostingPlanner$PlannedLiteral" "estimate" "I", Cond.sameField "PostingPlanner$PlannedLiteral" "PostingPlanner$Part" "estimate" "I", Cond.fieldLink RX4 35 "PostingPlanner$PlannedLiteral" "place" "I", Cond.sameField "PostingPlanner$PlannedLiteral" "PostingPlanner$Part" "place" "I", Cond.methodLink RX4 26 yJ13_bitCount_95d88, Cond.static yJ13_bitCount_95d88, Cond.initialized RJ13, Cond.code yJ13_bitCount_95d88 cJ13_bitCount_95d88 2 (some .int), Cond.constantLong RJ13 314 (6148914691236517205), Cond.constantLong RJ13 316 (3689348814741910323), Cond.constantLong RJ13 318 (1085102592571150095), Cond.methodLink RX3 94 ⟨"PostingPlanner$PlannedClause", "keep", "(LPostingPlanner$Part;)V"⟩, Cond.sameMethod "PostingPlanner$PlannedClause" "PostingPlanner$Group" "keep" "(LPostingPlanner$Part;)V", Cond.selects RX3 ⟨"PostingPlanner$PlannedClause", "keep", "(LPostingPlanner$Part;)V"⟩ yX0_keep, Cond.instanceMethod yX0_keep, Cond.code yX0_keep cX0_keep 2 none, Cond.methodLink RX3 54 yX3_settleContraries]
def wsL_estimateAt_r7 : List Cond := [Cond.instanceMethod yX3_settleContraries, Cond.selects RX3 yX3_settleContraries yX3_settleContraries, Cond.code yX3_settleContraries cX3_settleContraries 3 none, Cond.fieldLink RX3 98 "PostingPlanner$PlannedClause" "size" "I", Cond.sameField "PostingPlanner$PlannedClause" "PostingPlanner$Group" "size" "I", Cond.fieldLink RX3 103 "PostingPlanner$Part" "rank" "I", Cond.methodLink RX3 99 ⟨"PostingPlanner$PlannedClause", "partAt", "(I)LPostingPlanner$Part;"⟩, Cond.sameMethod "PostingPlanner$PlannedClause" "PostingPlanner$Group" "partAt" "(I)LPostingPlanner$Part;", Cond.selects RX3 ⟨"PostingPlanner$PlannedClause", "partAt", "(I)LPostingPlanner$Part;"⟩ yX0_partAt, Cond.methodLink RX3 106 ⟨"PostingPlanner$PlannedClause", "fix", "(I)V"⟩, Cond.sameMethod "PostingPlanner$PlannedClause" "PostingPlanner$Group" "fix" "(I)V", Cond.selects RX3 ⟨"PostingPlanner$PlannedClause", "fix", "(I)V"⟩ yX0_fix, Cond.methodLink RX3 57 ⟨"PostingPlanner$PlannedClause", "settleEmpty", "()V"⟩, Cond.sameMethod "PostingPlanner$PlannedClause" "PostingPlanner$Group" "settleEmpty" "()V", Cond.selects RX3 ⟨"PostingPlanner$PlannedClause", "settleEmpty", "()V"⟩ yX0_settleEmpty, Cond.instanceMethod yX0_settleEmpty, Cond.code yX0_settleEmpty cX0_settleEmpty 1 none, Cond.methodLink RX3 60 ⟨"PostingPlanner$PlannedClause", "appraise", "()V"⟩, Cond.sameMethod "PostingPlanner$PlannedClause" "PostingPlanner$Group" "appraise" "()V", Cond.selects RX3 ⟨"PostingPlanner$PlannedClause", "appraise", "()V"⟩ yX0_appraise, Cond.instanceMethod yX0_appraise, Cond.code yX0_appraise cX0_appraise 2 none, Cond.fieldLink RX0 53 "PostingPlanner$Group" "estimate" "I", Cond.sameField "PostingPlanner$Group" "PostingPlanner$Part" "estimate" "I"]
def wsL_estimateAt_r8 : List Cond := [Cond.methodLink RX0 60 Lib.Math.min.name, Cond.static Lib.Math.min.name, Cond.initialized "java/lang/Math", Cond.code Lib.Math.min.name Lib.Math.min.code 2 (some .int), Cond.methodLink RX0 43 yJ13_bitCount_95d88, Cond.methodLink RX0 49 ⟨"PostingPlanner$Group", "leastEstimate", "(I)I"⟩, Cond.sameMethod "PostingPlanner$Group" "PostingPlanner$Group" "leastEstimate" "(I)I", Cond.selects RX2 ⟨"PostingPlanner$Group", "leastEstimate", "(I)I"⟩ yX0_leastEstimate, Cond.instanceMethod yX0_leastEstimate, Cond.code yX0_leastEstimate cX0_leastEstimate 5 (some .int), Cond.fieldLink RX0 66 "PostingPlanner$Part" "estimate" "I", Cond.selects RX3 ⟨"PostingPlanner$Group", "leastEstimate", "(I)I"⟩ yX0_leastEstimate, Cond.methodLink RX0 56 ⟨"PostingPlanner$Group", "sumOfEstimates", "()I"⟩, Cond.sameMethod "PostingPlanner$Group" "PostingPlanner$Group" "sumOfEstimates" "()I", Cond.selects RX2 ⟨"PostingPlanner$Group", "sumOfEstimates", "()I"⟩ yX0_sumOfEstimates, Cond.instanceMethod yX0_sumOfEstimates, Cond.code yX0_sumOfEstimates cX0_sumOfEstimates 4 (some .int), Cond.selects RX3 ⟨"PostingPlanner$Group", "sumOfEstimates", "()I"⟩ yX0_sumOfEstimates, Cond.methodLink RX3 63 ⟨"PostingPlanner$PlannedClause", "order", "()V"⟩, Cond.sameMethod "PostingPlanner$PlannedClause" "PostingPlanner$Group" "order" "()V", Cond.selects RX3 ⟨"PostingPlanner$PlannedClause", "order", "()V"⟩ yX0_order, Cond.instanceMethod yX0_order, Cond.code yX0_order cX0_order 4 none, Cond.methodLink RX0 67 ⟨"PostingPlanner$Group", "isBefore", "(LPostingPlanner$Part;LPostingPlanner$Part;)Z"⟩]
def wsL_estimateAt_r9 : List Cond := [Cond.sameMethod "PostingPlanner$Group" "PostingPlanner$Group" "isBefore" "(LPostingPlanner$Part;LPostingPlanner$Part;)Z", Cond.selects RX2 ⟨"PostingPlanner$Group", "isBefore", "(LPostingPlanner$Part;LPostingPlanner$Part;)Z"⟩ yX0_isBefore, Cond.instanceMethod yX0_isBefore, Cond.code yX0_isBefore cX0_isBefore 3 (some .boolean), Cond.selects RX3 ⟨"PostingPlanner$Group", "isBefore", "(LPostingPlanner$Part;LPostingPlanner$Part;)Z"⟩ yX0_isBefore, Cond.methodLink RX2 51 yX2_takeIn, Cond.instanceMethod yX2_takeIn, Cond.selects RX2 yX2_takeIn yX2_takeIn, Cond.code yX2_takeIn cX2_takeIn 2 none, Cond.fieldLink RX2 76 "PostingPlanner$PlannedClause" "kind" "I", Cond.fieldLink RX2 77 "PostingPlanner$Plan" "kind" "I", Cond.sameField "PostingPlanner$Plan" "PostingPlanner$Group" "kind" "I", Cond.fieldLink RX2 78 "PostingPlanner$Plan" "need" "I", Cond.sameField "PostingPlanner$Plan" "PostingPlanner$Group" "need" "I", Cond.methodLink RX2 71 ⟨"PostingPlanner$PlannedClause", "isFixed", "()Z"⟩, Cond.methodLink RX2 72 ⟨"PostingPlanner$Plan", "keep", "(LPostingPlanner$Part;)V"⟩, Cond.sameMethod "PostingPlanner$Plan" "PostingPlanner$Group" "keep" "(LPostingPlanner$Part;)V", Cond.selects RX2 ⟨"PostingPlanner$Plan", "keep", "(LPostingPlanner$Part;)V"⟩ yX0_keep, Cond.methodLink RX2 79 ⟨"PostingPlanner$Plan", "fix", "(I)V"⟩, Cond.sameMethod "PostingPlanner$Plan" "PostingPlanner$Group" "fix" "(I)V", Cond.selects RX2 ⟨"PostingPlanner$Plan", "fix", "(I)V"⟩ yX0_fix, Cond.methodLink RX2 58 ⟨"PostingPlanner$Plan", "settleSome", "(I)V"⟩, Cond.sameMethod "PostingPlanner$Plan" "PostingPlanner$Group" "settleSome" "(I)V", Cond.selects RX2 ⟨"PostingPlanner$Plan", "settleSome", "(I)V"⟩ yX0_settleSome]
def wsL_estimateAt_r10 : List Cond := [Cond.methodLink RX2 62 ⟨"PostingPlanner$Plan", "settleEmpty", "()V"⟩, Cond.sameMethod "PostingPlanner$Plan" "PostingPlanner$Group" "settleEmpty" "()V", Cond.selects RX2 ⟨"PostingPlanner$Plan", "settleEmpty", "()V"⟩ yX0_settleEmpty, Cond.methodLink RX2 65 ⟨"PostingPlanner$Plan", "appraise", "()V"⟩, Cond.sameMethod "PostingPlanner$Plan" "PostingPlanner$Group" "appraise" "()V", Cond.selects RX2 ⟨"PostingPlanner$Plan", "appraise", "()V"⟩ yX0_appraise, Cond.methodLink RX2 68 ⟨"PostingPlanner$Plan", "order", "()V"⟩, Cond.sameMethod "PostingPlanner$Plan" "PostingPlanner$Group" "order" "()V", Cond.selects RX2 ⟨"PostingPlanner$Plan", "order", "()V"⟩ yX0_order, Cond.methodLink RX10 189 yX2_plannedAt, Cond.instanceMethod yX2_plannedAt, Cond.selects RX2 yX2_plannedAt yX2_plannedAt, Cond.code yX2_plannedAt cX2_plannedAt 3 (some (.object "PostingPlanner$PlannedClause")), Cond.fieldLink RX2 86 "PostingPlanner$Part" "rank" "I", Cond.methodLink RX2 82 ⟨"PostingPlanner$Plan", "partAt", "(I)LPostingPlanner$Part;"⟩, Cond.sameMethod "PostingPlanner$Plan" "PostingPlanner$Group" "partAt" "(I)LPostingPlanner$Part;", Cond.selects RX2 ⟨"PostingPlanner$Plan", "partAt", "(I)LPostingPlanner$Part;"⟩ yX0_partAt]
def wsL_estimateAt : List Cond := .codeWith yL_estimateAt cL_estimateAt 4 (some .int) [(0, 9, 12, 15)] :: ((wsL_estimateAt_r1 ++ (wsL_estimateAt_r2 ++ (wsL_estimateAt_r3 ++ (wsL_estimateAt_r4 ++ (wsL_estimateAt_r5 ++ (wsL_estimateAt_r6 ++ (wsL_estimateAt_r7 ++ (wsL_estimateAt_r8 ++ (wsL_estimateAt_r9 ++ wsL_estimateAt_r10))))))))) ++ wsX20 ++ wsX30 ++ wsX40 ++ wsX100 ++ wsX50 ++ wsX70 ++ wsX90 ++ (vx_atS RX10 50 "java/lang/IllegalArgumentException" ["java/lang/RuntimeException", "java/lang/Exception"]).filter goodWord)
def wsL_literalAt_r1 : List Cond := [Cond.classLink RL 15 "java/lang/IllegalArgumentException", Cond.methodLink RL 50 yX10_literalAt, Cond.instanceMethod yX10_literalAt, Cond.selects RX10 yX10_literalAt yX10_literalAt, Cond.initialized RX10, Cond.code yX10_literalAt cX10_literalAt 4 (some .int), Cond.classLink RX10 46 "java/lang/IllegalArgumentException", Cond.initialized "java/lang/IllegalArgumentException", Cond.fieldLink RX10 149 "PostingPlanner$Part" "rank" "I", Cond.methodLink RX10 132 yX10_plannedClause, Cond.instanceMethod yX10_plannedClause, Cond.selects RX10 yX10_plannedClause yX10_plannedClause, Cond.code yX10_plannedClause cX10_plannedClause 3 (some (.object "PostingPlanner$PlannedClause")), Cond.fieldLink RX10 31 "PostingPlanner" "plan" "LPostingPlanner$Plan;", Cond.fieldLink RX10 19 "PostingPlanner" "question" "LPostingPlanner$Question;", Cond.fieldLink RX10 10 "PostingPlanner" "shelf" "LPostingPlanner$Shelf;", Cond.methodLink RX10 118 yX2_make, Cond.instanceMethod yX2_make, Cond.selects RX2 yX2_make yX2_make, Cond.initialized RX2, Cond.code yX2_make cX2_make 7 none, Cond.fieldLink RX2 26 "PostingPlanner$Question" "kind" "I", Cond.fieldLink RX2 32 "PostingPlanner$Question" "need" "I", Cond.fieldLink RX2 11 "PostingPlanner$Plan" "clauses" "[LPostingPlanner$PlannedClause;"]
def wsL_literalAt_r2 : List Cond := [Cond.fieldLink RX2 55 "PostingPlanner$Plan" "size" "I", Cond.sameField "PostingPlanner$Plan" "PostingPlanner$Group" "size" "I", Cond.methodLink RX2 20 yX7_allThere, Cond.instanceMethod yX7_allThere, Cond.selects RX7 yX7_allThere yX7_allThere, Cond.initialized RX7, Cond.code yX7_allThere cX7_allThere 4 (some .long), Cond.fieldLink RX7 9 "PostingPlanner$Shelf" "words" "[I", Cond.methodLink RX2 35 ⟨"PostingPlanner$Plan", "restart", "(IIJ)V"⟩, Cond.sameMethod "PostingPlanner$Plan" "PostingPlanner$Group" "restart" "(IIJ)V", Cond.selects RX2 ⟨"PostingPlanner$Plan", "restart", "(IIJ)V"⟩ yX0_restart, Cond.instanceMethod yX0_restart, Cond.initialized RX0, Cond.code yX0_restart cX0_restart 5 none, Cond.fieldLink RX0 15 "PostingPlanner$Group" "kind" "I", Cond.fieldLink RX0 19 "PostingPlanner$Group" "need" "I", Cond.fieldLink RX0 22 "PostingPlanner$Group" "size" "I", Cond.fieldLink RX0 25 "PostingPlanner$Group" "there" "J", Cond.fieldLink RX0 29 "PostingPlanner$Group" "place" "I", Cond.sameField "PostingPlanner$Group" "PostingPlanner$Part" "place" "I", Cond.methodLink RX2 39 ⟨"PostingPlanner$Plan", "isFixed", "()Z"⟩, Cond.sameMethod "PostingPlanner$Plan" "PostingPlanner$Group" "isFixed" "()Z", Cond.selects RX2 ⟨"PostingPlanner$Plan", "isFixed", "()Z"⟩ yX0_isFixed, Cond.instanceMethod yX0_isFixed]
def wsL_literalAt_r3 : List Cond := [Cond.code yX0_isFixed cX0_isFixed 1 (some .boolean), Cond.methodLink RX2 43 yX5_toldAt, Cond.instanceMethod yX5_toldAt, Cond.selects RX5 yX5_toldAt yX5_toldAt, Cond.initialized RX5, Cond.code yX5_toldAt cX5_toldAt 2 (some (.object "PostingPlanner$ToldClause")), Cond.fieldLink RX5 22 "PostingPlanner$Question" "size" "I", Cond.fieldLink RX5 11 "PostingPlanner$Question" "clauses" "[LPostingPlanner$ToldClause;", Cond.methodLink RX2 47 yX3_make, Cond.instanceMethod yX3_make, Cond.selects RX3 yX3_make yX3_make, Cond.initialized RX3, Cond.code yX3_make cX3_make 5 none, Cond.fieldLink RX3 24 "PostingPlanner$ToldClause" "kind" "I", Cond.fieldLink RX3 29 "PostingPlanner$ToldClause" "need" "I", Cond.fieldLink RX3 36 "PostingPlanner$ToldClause" "isNegated" "Z", Cond.fieldLink RX3 40 "PostingPlanner$ToldClause" "size" "I", Cond.methodLink RX3 32 ⟨"PostingPlanner$PlannedClause", "restart", "(IIJ)V"⟩, Cond.sameMethod "PostingPlanner$PlannedClause" "PostingPlanner$Group" "restart" "(IIJ)V", Cond.selects RX3 ⟨"PostingPlanner$PlannedClause", "restart", "(IIJ)V"⟩ yX0_restart, Cond.methodLink RX3 43 yX3_turn, Cond.instanceMethod yX3_turn, Cond.selects RX3 yX3_turn yX3_turn, Cond.code yX3_turn cX3_turn 2 none]
def wsL_literalAt_r4 : List Cond := [Cond.fieldLink RX3 66 "PostingPlanner$PlannedClause" "kind" "I", Cond.sameField "PostingPlanner$PlannedClause" "PostingPlanner$Group" "kind" "I", Cond.fieldLink RX3 67 "PostingPlanner$PlannedClause" "need" "I", Cond.sameField "PostingPlanner$PlannedClause" "PostingPlanner$Group" "need" "I", Cond.methodLink RX3 47 ⟨"PostingPlanner$PlannedClause", "settleSome", "(I)V"⟩, Cond.sameMethod "PostingPlanner$PlannedClause" "PostingPlanner$Group" "settleSome" "(I)V", Cond.selects RX3 ⟨"PostingPlanner$PlannedClause", "settleSome", "(I)V"⟩ yX0_settleSome, Cond.instanceMethod yX0_settleSome, Cond.code yX0_settleSome cX0_settleSome 2 none, Cond.methodLink RX0 39 ⟨"PostingPlanner$Group", "fix", "(I)V"⟩, Cond.sameMethod "PostingPlanner$Group" "PostingPlanner$Group" "fix" "(I)V", Cond.selects RX2 ⟨"PostingPlanner$Group", "fix", "(I)V"⟩ yX0_fix, Cond.instanceMethod yX0_fix, Cond.code yX0_fix cX0_fix 2 none, Cond.selects RX3 ⟨"PostingPlanner$Group", "fix", "(I)V"⟩ yX0_fix, Cond.methodLink RX3 50 yX3_keepLiterals, Cond.instanceMethod yX3_keepLiterals, Cond.selects RX3 yX3_keepLiterals yX3_keepLiterals, Cond.code yX3_keepLiterals cX3_keepLiterals 7 none, Cond.fieldLink RX3 72 "PostingPlanner$ToldClause" "codes" "[I", Cond.fieldLink RX3 17 "PostingPlanner$PlannedClause" "literals" "[LPostingPlanner$PlannedLiteral;", Cond.methodLink RX3 68 ⟨"PostingPlanner$PlannedClause", "isFixed", "()Z"⟩, Cond.sameMethod "PostingPlanner$PlannedClause" "PostingPlanner$Group" "isFixed" "()Z", Cond.selects RX3 ⟨"PostingPlanner$PlannedClause", "isFixed", "()Z"⟩ yX0_isFixed]
def wsL_literalAt_r5 : List Cond := [Cond.static yX10_contraryOf, Cond.code yX10_contraryOf cX10_contraryOf 1 (some .int), Cond.methodLink RX3 80 ⟨"PostingPlanner$PlannedClause", "hasRank", "(I)Z"⟩, Cond.sameMethod "PostingPlanner$PlannedClause" "PostingPlanner$Group" "hasRank" "(I)Z", Cond.selects RX3 ⟨"PostingPlanner$PlannedClause", "hasRank", "(I)Z"⟩ yX0_hasRank, Cond.instanceMethod yX0_hasRank, Cond.code yX0_hasRank cX0_hasRank 4 (some .boolean), Cond.fieldLink RX0 36 "PostingPlanner$Part" "rank" "I", Cond.methodLink RX0 32 ⟨"PostingPlanner$Group", "partAt", "(I)LPostingPlanner$Part;"⟩, Cond.sameMethod "PostingPlanner$Group" "PostingPlanner$Group" "partAt" "(I)LPostingPlanner$Part;", Cond.selects RX2 ⟨"PostingPlanner$Group", "partAt", "(I)LPostingPlanner$Part;"⟩ yX0_partAt, Cond.instanceMethod yX0_partAt, Cond.code yX0_partAt cX0_partAt 2 (some (.object "PostingPlanner$Part")), Cond.fieldLink RX0 9 "PostingPlanner$Group" "parts" "[LPostingPlanner$Part;", Cond.selects RX3 ⟨"PostingPlanner$Group", "partAt", "(I)LPostingPlanner$Part;"⟩ yX0_partAt, Cond.methodLink RX3 84 yX7_truthsOf, Cond.instanceMethod yX7_truthsOf, Cond.selects RX7 yX7_truthsOf yX7_truthsOf, Cond.code yX7_truthsOf cX7_truthsOf 5 (some .long), Cond.static yX10_isLiteralTrue, Cond.code yX10_isLiteralTrue cX10_isLiteralTrue 2 (some .boolean), Cond.methodLink RX3 90 yX4_make, Cond.instanceMethod yX4_make, Cond.selects RX4 yX4_make yX4_make]
def wsL_literalAt_r6 : List Cond := [Cond.initialized RX4, Cond.code yX4_make cX4_make 6 none, Cond.fieldLink RX4 15 "PostingPlanner$PlannedLiteral" "there" "J", Cond.fieldLink RX4 19 "PostingPlanner$PlannedLiteral" "truths" "J", Cond.fieldLink RX4 22 "PostingPlanner$PlannedLiteral" "rank" "I", Cond.sameField "PostingPlanner$PlannedLiteral" "PostingPlanner$Part" "rank" "I", Cond.fieldLink RX4 32 "PostingPlanner$PlannedLiteral" "estimate" "I", Cond.sameField "PostingPlanner$PlannedLiteral" "PostingPlanner$Part" "estimate" "I", Cond.fieldLink RX4 35 "PostingPlanner$PlannedLiteral" "place" "I", Cond.sameField "PostingPlanner$PlannedLiteral" "PostingPlanner$Part" "place" "I", Cond.methodLink RX4 26 yJ13_bitCount_95d88, Cond.static yJ13_bitCount_95d88, Cond.initialized RJ13, Cond.code yJ13_bitCount_95d88 cJ13_bitCount_95d88 2 (some .int), Cond.constantLong RJ13 314 (6148914691236517205), Cond.constantLong RJ13 316 (3689348814741910323), Cond.constantLong RJ13 318 (1085102592571150095), Cond.methodLink RX3 94 ⟨"PostingPlanner$PlannedClause", "keep", "(LPostingPlanner$Part;)V"⟩, Cond.sameMethod "PostingPlanner$PlannedClause" "PostingPlanner$Group" "keep" "(LPostingPlanner$Part;)V", Cond.selects RX3 ⟨"PostingPlanner$PlannedClause", "keep", "(LPostingPlanner$Part;)V"⟩ yX0_keep, Cond.instanceMethod yX0_keep, Cond.code yX0_keep cX0_keep 2 none, Cond.methodLink RX3 54 yX3_settleContraries, Cond.instanceMethod yX3_settleContraries]
def wsL_literalAt_r7 : List Cond := [Cond.selects RX3 yX3_settleContraries yX3_settleContraries, Cond.code yX3_settleContraries cX3_settleContraries 3 none, Cond.fieldLink RX3 98 "PostingPlanner$PlannedClause" "size" "I", Cond.sameField "PostingPlanner$PlannedClause" "PostingPlanner$Group" "size" "I", Cond.fieldLink RX3 103 "PostingPlanner$Part" "rank" "I", Cond.methodLink RX3 99 ⟨"PostingPlanner$PlannedClause", "partAt", "(I)LPostingPlanner$Part;"⟩, Cond.sameMethod "PostingPlanner$PlannedClause" "PostingPlanner$Group" "partAt" "(I)LPostingPlanner$Part;", Cond.selects RX3 ⟨"PostingPlanner$PlannedClause", "partAt", "(I)LPostingPlanner$Part;"⟩ yX0_partAt, Cond.methodLink RX3 106 ⟨"PostingPlanner$PlannedClause", "fix", "(I)V"⟩, Cond.sameMethod "PostingPlanner$PlannedClause" "PostingPlanner$Group" "fix" "(I)V", Cond.selects RX3 ⟨"PostingPlanner$PlannedClause", "fix", "(I)V"⟩ yX0_fix, Cond.methodLink RX3 57 ⟨"PostingPlanner$PlannedClause", "settleEmpty", "()V"⟩, Cond.sameMethod "PostingPlanner$PlannedClause" "PostingPlanner$Group" "settleEmpty" "()V", Cond.selects RX3 ⟨"PostingPlanner$PlannedClause", "settleEmpty", "()V"⟩ yX0_settleEmpty, Cond.instanceMethod yX0_settleEmpty, Cond.code yX0_settleEmpty cX0_settleEmpty 1 none, Cond.methodLink RX3 60 ⟨"PostingPlanner$PlannedClause", "appraise", "()V"⟩, Cond.sameMethod "PostingPlanner$PlannedClause" "PostingPlanner$Group" "appraise" "()V", Cond.selects RX3 ⟨"PostingPlanner$PlannedClause", "appraise", "()V"⟩ yX0_appraise, Cond.instanceMethod yX0_appraise, Cond.code yX0_appraise cX0_appraise 2 none, Cond.fieldLink RX0 53 "PostingPlanner$Group" "estimate" "I", Cond.sameField "PostingPlanner$Group" "PostingPlanner$Part" "estimate" "I", Cond.methodLink RX0 60 Lib.Math.min.name]
def wsL_literalAt_r8 : List Cond := [Cond.static Lib.Math.min.name, Cond.initialized "java/lang/Math", Cond.code Lib.Math.min.name Lib.Math.min.code 2 (some .int), Cond.methodLink RX0 43 yJ13_bitCount_95d88, Cond.methodLink RX0 49 ⟨"PostingPlanner$Group", "leastEstimate", "(I)I"⟩, Cond.sameMethod "PostingPlanner$Group" "PostingPlanner$Group" "leastEstimate" "(I)I", Cond.selects RX2 ⟨"PostingPlanner$Group", "leastEstimate", "(I)I"⟩ yX0_leastEstimate, Cond.instanceMethod yX0_leastEstimate, Cond.code yX0_leastEstimate cX0_leastEstimate 5 (some .int), Cond.fieldLink RX0 66 "PostingPlanner$Part" "estimate" "I", Cond.selects RX3 ⟨"PostingPlanner$Group", "leastEstimate", "(I)I"⟩ yX0_leastEstimate, Cond.methodLink RX0 56 ⟨"PostingPlanner$Group", "sumOfEstimates", "()I"⟩, Cond.sameMethod "PostingPlanner$Group" "PostingPlanner$Group" "sumOfEstimates" "()I", Cond.selects RX2 ⟨"PostingPlanner$Group", "sumOfEstimates", "()I"⟩ yX0_sumOfEstimates, Cond.instanceMethod yX0_sumOfEstimates, Cond.code yX0_sumOfEstimates cX0_sumOfEstimates 4 (some .int), Cond.selects RX3 ⟨"PostingPlanner$Group", "sumOfEstimates", "()I"⟩ yX0_sumOfEstimates, Cond.methodLink RX3 63 ⟨"PostingPlanner$PlannedClause", "order", "()V"⟩, Cond.sameMethod "PostingPlanner$PlannedClause" "PostingPlanner$Group" "order" "()V", Cond.selects RX3 ⟨"PostingPlanner$PlannedClause", "order", "()V"⟩ yX0_order, Cond.instanceMethod yX0_order, Cond.code yX0_order cX0_order 4 none, Cond.methodLink RX0 67 ⟨"PostingPlanner$Group", "isBefore", "(LPostingPlanner$Part;LPostingPlanner$Part;)Z"⟩, Cond.sameMethod "PostingPlanner$Group" "PostingPlanner$Group" "isBefore" "(LPostingPlanner$Part;LPostingPlanner$Part;)Z"]
def wsL_literalAt_r9 : List Cond := [Cond.selects RX2 ⟨"PostingPlanner$Group", "isBefore", "(LPostingPlanner$Part;LPostingPlanner$Part;)Z"⟩ yX0_isBefore, Cond.instanceMethod yX0_isBefore, Cond.code yX0_isBefore cX0_isBefore 3 (some .boolean), Cond.selects RX3 ⟨"PostingPlanner$Group", "isBefore", "(LPostingPlanner$Part;LPostingPlanner$Part;)Z"⟩ yX0_isBefore, Cond.methodLink RX2 51 yX2_takeIn, Cond.instanceMethod yX2_takeIn, Cond.selects RX2 yX2_takeIn yX2_takeIn, Cond.code yX2_takeIn cX2_takeIn 2 none, Cond.fieldLink RX2 76 "PostingPlanner$PlannedClause" "kind" "I", Cond.fieldLink RX2 77 "PostingPlanner$Plan" "kind" "I", Cond.sameField "PostingPlanner$Plan" "PostingPlanner$Group" "kind" "I", Cond.fieldLink RX2 78 "PostingPlanner$Plan" "need" "I", Cond.sameField "PostingPlanner$Plan" "PostingPlanner$Group" "need" "I", Cond.methodLink RX2 71 ⟨"PostingPlanner$PlannedClause", "isFixed", "()Z"⟩, Cond.methodLink RX2 72 ⟨"PostingPlanner$Plan", "keep", "(LPostingPlanner$Part;)V"⟩, Cond.sameMethod "PostingPlanner$Plan" "PostingPlanner$Group" "keep" "(LPostingPlanner$Part;)V", Cond.selects RX2 ⟨"PostingPlanner$Plan", "keep", "(LPostingPlanner$Part;)V"⟩ yX0_keep, Cond.methodLink RX2 79 ⟨"PostingPlanner$Plan", "fix", "(I)V"⟩, Cond.sameMethod "PostingPlanner$Plan" "PostingPlanner$Group" "fix" "(I)V", Cond.selects RX2 ⟨"PostingPlanner$Plan", "fix", "(I)V"⟩ yX0_fix, Cond.methodLink RX2 58 ⟨"PostingPlanner$Plan", "settleSome", "(I)V"⟩, Cond.sameMethod "PostingPlanner$Plan" "PostingPlanner$Group" "settleSome" "(I)V", Cond.selects RX2 ⟨"PostingPlanner$Plan", "settleSome", "(I)V"⟩ yX0_settleSome, Cond.methodLink RX2 62 ⟨"PostingPlanner$Plan", "settleEmpty", "()V"⟩]
def wsL_literalAt_r10 : List Cond := [Cond.sameMethod "PostingPlanner$Plan" "PostingPlanner$Group" "settleEmpty" "()V", Cond.selects RX2 ⟨"PostingPlanner$Plan", "settleEmpty", "()V"⟩ yX0_settleEmpty, Cond.methodLink RX2 65 ⟨"PostingPlanner$Plan", "appraise", "()V"⟩, Cond.sameMethod "PostingPlanner$Plan" "PostingPlanner$Group" "appraise" "()V", Cond.selects RX2 ⟨"PostingPlanner$Plan", "appraise", "()V"⟩ yX0_appraise, Cond.methodLink RX2 68 ⟨"PostingPlanner$Plan", "order", "()V"⟩, Cond.sameMethod "PostingPlanner$Plan" "PostingPlanner$Group" "order" "()V", Cond.selects RX2 ⟨"PostingPlanner$Plan", "order", "()V"⟩ yX0_order, Cond.methodLink RX10 189 yX2_plannedAt, Cond.instanceMethod yX2_plannedAt, Cond.selects RX2 yX2_plannedAt yX2_plannedAt, Cond.code yX2_plannedAt cX2_plannedAt 3 (some (.object "PostingPlanner$PlannedClause")), Cond.fieldLink RX2 86 "PostingPlanner$Part" "rank" "I", Cond.methodLink RX2 82 ⟨"PostingPlanner$Plan", "partAt", "(I)LPostingPlanner$Part;"⟩, Cond.sameMethod "PostingPlanner$Plan" "PostingPlanner$Group" "partAt" "(I)LPostingPlanner$Part;", Cond.selects RX2 ⟨"PostingPlanner$Plan", "partAt", "(I)LPostingPlanner$Part;"⟩ yX0_partAt, Cond.methodLink RX10 143 ⟨"PostingPlanner$PlannedClause", "partAt", "(I)LPostingPlanner$Part;"⟩]
def wsL_literalAt : List Cond := .codeWith yL_literalAt cL_literalAt 5 (some .int) [(0, 10, 13, 15)] :: ((wsL_literalAt_r1 ++ (wsL_literalAt_r2 ++ (wsL_literalAt_r3 ++ (wsL_literalAt_r4 ++ (wsL_literalAt_r5 ++ (wsL_literalAt_r6 ++ (wsL_literalAt_r7 ++ (wsL_literalAt_r8 ++ (wsL_literalAt_r9 ++ wsL_literalAt_r10))))))))) ++ wsX20 ++ wsX30 ++ wsX40 ++ wsX100 ++ wsX50 ++ wsX70 ++ wsX90 ++ (vx_atS RX10 50 "java/lang/IllegalArgumentException" ["java/lang/RuntimeException", "java/lang/Exception"]).filter goodWord)
def wsL_leap_r1 : List Cond := [Cond.classLink RL 13 "java/lang/IndexOutOfBoundsException", Cond.classLink RL 33 "java/lang/IllegalStateException", Cond.methodLink RL 53 yX10_leap, Cond.instanceMethod yX10_leap, Cond.selects RX10 yX10_leap yX10_leap, Cond.initialized RX10, Cond.code yX10_leap cX10_leap 2 (some .int), Cond.fieldLink RX10 38 "PostingPlanner" "run" "LPostingPlanner$Run;", Cond.methodLink RX10 42 yX10_checkDocument, Cond.instanceMethod yX10_checkDocument, Cond.selects RX10 yX10_checkDocument yX10_checkDocument, Cond.code yX10_checkDocument cX10_checkDocument 2 none, Cond.classLink RX10 99 "java/lang/IndexOutOfBoundsException", Cond.initialized "java/lang/IndexOutOfBoundsException", Cond.methodLink RX10 155 yX10_checkRun, Cond.instanceMethod yX10_checkRun, Cond.selects RX10 yX10_checkRun yX10_checkRun, Cond.code yX10_checkRun cX10_checkRun 1 none, Cond.classLink RX10 90 "java/lang/IllegalStateException", Cond.initialized "java/lang/IllegalStateException", Cond.fieldLink RX10 177 "PostingPlanner$Run" "isBegun" "Z", Cond.methodLink RX10 158 yX6_advance, Cond.instanceMethod yX6_advance, Cond.selects RX6 yX6_advance yX6_advance]
def wsL_leap_r2 : List Cond := [Cond.initialized RX6, Cond.code yX6_advance cX6_advance 4 (some .int), Cond.fieldLink RX6 39 "PostingPlanner$Run" "given" "I", Cond.methodLink RX6 45 Lib.Math.max.name, Cond.static Lib.Math.max.name, Cond.initialized "java/lang/Math", Cond.code Lib.Math.max.name Lib.Math.max.code 2 (some .int), Cond.fieldLink RX6 23 "PostingPlanner$Run" "plan" "LPostingPlanner$Plan;", Cond.methodLink RX6 51 ⟨"PostingPlanner$Plan", "seek", "(II)I"⟩, Cond.sameMethod "PostingPlanner$Plan" "PostingPlanner$Group" "seek" "(II)I", Cond.selects RX2 ⟨"PostingPlanner$Plan", "seek", "(II)I"⟩ yX0_seek, Cond.instanceMethod yX0_seek, Cond.initialized RX0, Cond.code yX0_seek cX0_seek 3 (some .int), Cond.fieldLink RX0 29 "PostingPlanner$Group" "place" "I", Cond.sameField "PostingPlanner$Group" "PostingPlanner$Part" "place" "I", Cond.fieldLink RX0 15 "PostingPlanner$Group" "kind" "I", Cond.fieldLink RX0 25 "PostingPlanner$Group" "there" "J", Cond.methodLink RX0 71 ⟨"PostingPlanner$Group", "seekAll", "(II)I"⟩, Cond.sameMethod "PostingPlanner$Group" "PostingPlanner$Group" "seekAll" "(II)I", Cond.selects RX2 ⟨"PostingPlanner$Group", "seekAll", "(II)I"⟩ yX0_seekAll, Cond.instanceMethod yX0_seekAll, Cond.selects RX3 ⟨"PostingPlanner$Group", "seekAll", "(II)I"⟩ yX0_seekAll, Cond.methodLink RX0 74 ⟨"PostingPlanner$Group", "seekAny", "(II)I"⟩]
def wsL_leap_r3 : List Cond := [Cond.sameMethod "PostingPlanner$Group" "PostingPlanner$Group" "seekAny" "(II)I", Cond.selects RX2 ⟨"PostingPlanner$Group", "seekAny", "(II)I"⟩ yX0_seekAny, Cond.instanceMethod yX0_seekAny, Cond.selects RX3 ⟨"PostingPlanner$Group", "seekAny", "(II)I"⟩ yX0_seekAny, Cond.methodLink RX0 77 ⟨"PostingPlanner$Group", "seekSome", "(II)I"⟩, Cond.sameMethod "PostingPlanner$Group" "PostingPlanner$Group" "seekSome" "(II)I", Cond.selects RX2 ⟨"PostingPlanner$Group", "seekSome", "(II)I"⟩ yX0_seekSome, Cond.instanceMethod yX0_seekSome, Cond.selects RX3 ⟨"PostingPlanner$Group", "seekSome", "(II)I"⟩ yX0_seekSome, Cond.static yX10_firstOf, Cond.code yX10_firstOf cX10_firstOf 4 (some .int), Cond.code yX0_seekAll cX0_seekAll 8 (some .int), Cond.fieldLink RX0 22 "PostingPlanner$Group" "size" "I", Cond.methodLink RX0 32 ⟨"PostingPlanner$Group", "partAt", "(I)LPostingPlanner$Part;"⟩, Cond.sameMethod "PostingPlanner$Group" "PostingPlanner$Group" "partAt" "(I)LPostingPlanner$Part;", Cond.selects RX2 ⟨"PostingPlanner$Group", "partAt", "(I)LPostingPlanner$Part;"⟩ yX0_partAt, Cond.instanceMethod yX0_partAt, Cond.code yX0_partAt cX0_partAt 2 (some (.object "PostingPlanner$Part")), Cond.fieldLink RX0 9 "PostingPlanner$Group" "parts" "[LPostingPlanner$Part;", Cond.selects RX3 ⟨"PostingPlanner$Group", "partAt", "(I)LPostingPlanner$Part;"⟩ yX0_partAt, Cond.methodLink RX0 84 ⟨"PostingPlanner$Part", "seek", "(II)I"⟩, Cond.sameMethod "PostingPlanner$Part" "PostingPlanner$Part" "seek" "(II)I", Cond.selects RX2 ⟨"PostingPlanner$Part", "seek", "(II)I"⟩ yX0_seek, Cond.selects RX3 ⟨"PostingPlanner$Part", "seek", "(II)I"⟩ yX0_seek]
def wsL_leap_r4 : List Cond := [Cond.selects RX4 ⟨"PostingPlanner$Part", "seek", "(II)I"⟩ yX4_seek, Cond.instanceMethod yX4_seek, Cond.initialized RX4, Cond.code yX4_seek cX4_seek 3 (some .int), Cond.fieldLink RX4 35 "PostingPlanner$PlannedLiteral" "place" "I", Cond.sameField "PostingPlanner$PlannedLiteral" "PostingPlanner$Part" "place" "I", Cond.fieldLink RX4 19 "PostingPlanner$PlannedLiteral" "truths" "J", Cond.fieldLink RX4 9 "PostingPlanner$PlannedLiteral" "tally" "LPostingPlanner$Tally;", Cond.fieldLink RX4 42 "PostingPlanner$Tally" "sum" "I", Cond.methodLink RX4 47 yX4_cost, Cond.instanceMethod yX4_cost, Cond.selects RX4 yX4_cost yX4_cost, Cond.code yX4_cost cX4_cost 4 (some .int), Cond.fieldLink RX4 22 "PostingPlanner$PlannedLiteral" "rank" "I", Cond.sameField "PostingPlanner$PlannedLiteral" "PostingPlanner$Part" "rank" "I", Cond.fieldLink RX4 15 "PostingPlanner$PlannedLiteral" "there" "J", Cond.methodLink RX4 26 yJ13_bitCount_95d88, Cond.static yJ13_bitCount_95d88, Cond.initialized RJ13, Cond.code yJ13_bitCount_95d88 cJ13_bitCount_95d88 2 (some .int), Cond.constantLong RJ13 314 (6148914691236517205), Cond.constantLong RJ13 316 (3689348814741910323), Cond.constantLong RJ13 318 (1085102592571150095), Cond.code yX0_seekAny cX0_seekAny 6 (some .int)]
def wsL_leap_r5 : List Cond := [Cond.methodLink RX0 60 Lib.Math.min.name, Cond.static Lib.Math.min.name, Cond.code Lib.Math.min.name Lib.Math.min.code 2 (some .int), Cond.code yX0_seekSome cX0_seekSome 6 (some .int), Cond.methodLink RX0 87 ⟨"PostingPlanner$Group", "neededPlace", "()I"⟩, Cond.sameMethod "PostingPlanner$Group" "PostingPlanner$Group" "neededPlace" "()I", Cond.selects RX2 ⟨"PostingPlanner$Group", "neededPlace", "()I"⟩ yX0_neededPlace, Cond.instanceMethod yX0_neededPlace, Cond.code yX0_neededPlace cX0_neededPlace 4 (some .int), Cond.fieldLink RX0 90 "PostingPlanner$Part" "place" "I", Cond.fieldLink RX0 19 "PostingPlanner$Group" "need" "I", Cond.methodLink RX0 91 ⟨"PostingPlanner$Group", "placesUpTo", "(I)I"⟩, Cond.sameMethod "PostingPlanner$Group" "PostingPlanner$Group" "placesUpTo" "(I)I", Cond.selects RX2 ⟨"PostingPlanner$Group", "placesUpTo", "(I)I"⟩ yX0_placesUpTo, Cond.instanceMethod yX0_placesUpTo, Cond.code yX0_placesUpTo cX0_placesUpTo 5 (some .int), Cond.selects RX3 ⟨"PostingPlanner$Group", "placesUpTo", "(I)I"⟩ yX0_placesUpTo, Cond.selects RX3 ⟨"PostingPlanner$Group", "neededPlace", "()I"⟩ yX0_neededPlace]
def wsL_leap : List Cond := .codeWith yL_leap cL_leap 4 (some .int) [(0, 9, 12, 13), (0, 9, 15, 33)] :: ((wsL_leap_r1 ++ (wsL_leap_r2 ++ (wsL_leap_r3 ++ (wsL_leap_r4 ++ wsL_leap_r5)))) ++ wsX100 ++ wsX60 ++ wsX20 ++ wsX30 ++ wsX40 ++ wsX80 ++ (vx_atS RX10 103 "java/lang/IndexOutOfBoundsException" ["java/lang/RuntimeException", "java/lang/Exception"]).filter goodWord ++ (vx_atS RX10 94 "java/lang/IllegalStateException" ["java/lang/RuntimeException", "java/lang/Exception"]).filter goodWord)
def wsL_next_r1 : List Cond := [Cond.classLink RL 33 "java/lang/IllegalStateException", Cond.methodLink RL 56 yX10_next, Cond.instanceMethod yX10_next, Cond.selects RX10 yX10_next yX10_next, Cond.initialized RX10, Cond.code yX10_next cX10_next 1 (some .int), Cond.fieldLink RX10 38 "PostingPlanner" "run" "LPostingPlanner$Run;", Cond.methodLink RX10 155 yX10_checkRun, Cond.instanceMethod yX10_checkRun, Cond.selects RX10 yX10_checkRun yX10_checkRun, Cond.code yX10_checkRun cX10_checkRun 1 none, Cond.classLink RX10 90 "java/lang/IllegalStateException", Cond.initialized "java/lang/IllegalStateException", Cond.fieldLink RX10 177 "PostingPlanner$Run" "isBegun" "Z", Cond.methodLink RX10 158 yX6_advance, Cond.instanceMethod yX6_advance, Cond.selects RX6 yX6_advance yX6_advance, Cond.initialized RX6, Cond.code yX6_advance cX6_advance 4 (some .int), Cond.fieldLink RX6 39 "PostingPlanner$Run" "given" "I", Cond.methodLink RX6 45 Lib.Math.max.name, Cond.static Lib.Math.max.name, Cond.initialized "java/lang/Math", Cond.code Lib.Math.max.name Lib.Math.max.code 2 (some .int)]
def wsL_next_r2 : List Cond := [Cond.fieldLink RX6 23 "PostingPlanner$Run" "plan" "LPostingPlanner$Plan;", Cond.methodLink RX6 51 ⟨"PostingPlanner$Plan", "seek", "(II)I"⟩, Cond.sameMethod "PostingPlanner$Plan" "PostingPlanner$Group" "seek" "(II)I", Cond.selects RX2 ⟨"PostingPlanner$Plan", "seek", "(II)I"⟩ yX0_seek, Cond.instanceMethod yX0_seek, Cond.initialized RX0, Cond.code yX0_seek cX0_seek 3 (some .int), Cond.fieldLink RX0 29 "PostingPlanner$Group" "place" "I", Cond.sameField "PostingPlanner$Group" "PostingPlanner$Part" "place" "I", Cond.fieldLink RX0 15 "PostingPlanner$Group" "kind" "I", Cond.fieldLink RX0 25 "PostingPlanner$Group" "there" "J", Cond.methodLink RX0 71 ⟨"PostingPlanner$Group", "seekAll", "(II)I"⟩, Cond.sameMethod "PostingPlanner$Group" "PostingPlanner$Group" "seekAll" "(II)I", Cond.selects RX2 ⟨"PostingPlanner$Group", "seekAll", "(II)I"⟩ yX0_seekAll, Cond.instanceMethod yX0_seekAll, Cond.selects RX3 ⟨"PostingPlanner$Group", "seekAll", "(II)I"⟩ yX0_seekAll, Cond.methodLink RX0 74 ⟨"PostingPlanner$Group", "seekAny", "(II)I"⟩, Cond.sameMethod "PostingPlanner$Group" "PostingPlanner$Group" "seekAny" "(II)I", Cond.selects RX2 ⟨"PostingPlanner$Group", "seekAny", "(II)I"⟩ yX0_seekAny, Cond.instanceMethod yX0_seekAny, Cond.selects RX3 ⟨"PostingPlanner$Group", "seekAny", "(II)I"⟩ yX0_seekAny, Cond.methodLink RX0 77 ⟨"PostingPlanner$Group", "seekSome", "(II)I"⟩, Cond.sameMethod "PostingPlanner$Group" "PostingPlanner$Group" "seekSome" "(II)I", Cond.selects RX2 ⟨"PostingPlanner$Group", "seekSome", "(II)I"⟩ yX0_seekSome]
def wsL_next_r3 : List Cond := [Cond.instanceMethod yX0_seekSome, Cond.selects RX3 ⟨"PostingPlanner$Group", "seekSome", "(II)I"⟩ yX0_seekSome, Cond.static yX10_firstOf, Cond.code yX10_firstOf cX10_firstOf 4 (some .int), Cond.code yX0_seekAll cX0_seekAll 8 (some .int), Cond.fieldLink RX0 22 "PostingPlanner$Group" "size" "I", Cond.methodLink RX0 32 ⟨"PostingPlanner$Group", "partAt", "(I)LPostingPlanner$Part;"⟩, Cond.sameMethod "PostingPlanner$Group" "PostingPlanner$Group" "partAt" "(I)LPostingPlanner$Part;", Cond.selects RX2 ⟨"PostingPlanner$Group", "partAt", "(I)LPostingPlanner$Part;"⟩ yX0_partAt, Cond.instanceMethod yX0_partAt, Cond.code yX0_partAt cX0_partAt 2 (some (.object "PostingPlanner$Part")), Cond.fieldLink RX0 9 "PostingPlanner$Group" "parts" "[LPostingPlanner$Part;", Cond.selects RX3 ⟨"PostingPlanner$Group", "partAt", "(I)LPostingPlanner$Part;"⟩ yX0_partAt, Cond.methodLink RX0 84 ⟨"PostingPlanner$Part", "seek", "(II)I"⟩, Cond.sameMethod "PostingPlanner$Part" "PostingPlanner$Part" "seek" "(II)I", Cond.selects RX2 ⟨"PostingPlanner$Part", "seek", "(II)I"⟩ yX0_seek, Cond.selects RX3 ⟨"PostingPlanner$Part", "seek", "(II)I"⟩ yX0_seek, Cond.selects RX4 ⟨"PostingPlanner$Part", "seek", "(II)I"⟩ yX4_seek, Cond.instanceMethod yX4_seek, Cond.initialized RX4, Cond.code yX4_seek cX4_seek 3 (some .int), Cond.fieldLink RX4 35 "PostingPlanner$PlannedLiteral" "place" "I", Cond.sameField "PostingPlanner$PlannedLiteral" "PostingPlanner$Part" "place" "I", Cond.fieldLink RX4 19 "PostingPlanner$PlannedLiteral" "truths" "J"]
def wsL_next_r4 : List Cond := [Cond.fieldLink RX4 9 "PostingPlanner$PlannedLiteral" "tally" "LPostingPlanner$Tally;", Cond.fieldLink RX4 42 "PostingPlanner$Tally" "sum" "I", Cond.methodLink RX4 47 yX4_cost, Cond.instanceMethod yX4_cost, Cond.selects RX4 yX4_cost yX4_cost, Cond.code yX4_cost cX4_cost 4 (some .int), Cond.fieldLink RX4 22 "PostingPlanner$PlannedLiteral" "rank" "I", Cond.sameField "PostingPlanner$PlannedLiteral" "PostingPlanner$Part" "rank" "I", Cond.fieldLink RX4 15 "PostingPlanner$PlannedLiteral" "there" "J", Cond.methodLink RX4 26 yJ13_bitCount_95d88, Cond.static yJ13_bitCount_95d88, Cond.initialized RJ13, Cond.code yJ13_bitCount_95d88 cJ13_bitCount_95d88 2 (some .int), Cond.constantLong RJ13 314 (6148914691236517205), Cond.constantLong RJ13 316 (3689348814741910323), Cond.constantLong RJ13 318 (1085102592571150095), Cond.code yX0_seekAny cX0_seekAny 6 (some .int), Cond.methodLink RX0 60 Lib.Math.min.name, Cond.static Lib.Math.min.name, Cond.code Lib.Math.min.name Lib.Math.min.code 2 (some .int), Cond.code yX0_seekSome cX0_seekSome 6 (some .int), Cond.methodLink RX0 87 ⟨"PostingPlanner$Group", "neededPlace", "()I"⟩, Cond.sameMethod "PostingPlanner$Group" "PostingPlanner$Group" "neededPlace" "()I", Cond.selects RX2 ⟨"PostingPlanner$Group", "neededPlace", "()I"⟩ yX0_neededPlace]
def wsL_next_r5 : List Cond := [Cond.instanceMethod yX0_neededPlace, Cond.code yX0_neededPlace cX0_neededPlace 4 (some .int), Cond.fieldLink RX0 90 "PostingPlanner$Part" "place" "I", Cond.fieldLink RX0 19 "PostingPlanner$Group" "need" "I", Cond.methodLink RX0 91 ⟨"PostingPlanner$Group", "placesUpTo", "(I)I"⟩, Cond.sameMethod "PostingPlanner$Group" "PostingPlanner$Group" "placesUpTo" "(I)I", Cond.selects RX2 ⟨"PostingPlanner$Group", "placesUpTo", "(I)I"⟩ yX0_placesUpTo, Cond.instanceMethod yX0_placesUpTo, Cond.code yX0_placesUpTo cX0_placesUpTo 5 (some .int), Cond.selects RX3 ⟨"PostingPlanner$Group", "placesUpTo", "(I)I"⟩ yX0_placesUpTo, Cond.selects RX3 ⟨"PostingPlanner$Group", "neededPlace", "()I"⟩ yX0_neededPlace]
def wsL_next : List Cond := .codeWith yL_next cL_next 3 (some .int) [(0, 8, 11, 33)] :: ((wsL_next_r1 ++ (wsL_next_r2 ++ (wsL_next_r3 ++ (wsL_next_r4 ++ wsL_next_r5)))) ++ wsX100 ++ wsX60 ++ wsX20 ++ wsX30 ++ wsX40 ++ wsX80 ++ (vx_atS RX10 94 "java/lang/IllegalStateException" ["java/lang/RuntimeException", "java/lang/Exception"]).filter goodWord)
def wsL_readings : List Cond := .codeWith yL_readings cL_readings 3 (some .int) [(0, 8, 11, 33)] :: ([.classLink RL 33 "java/lang/IllegalStateException", .methodLink RL 60 yX10_readings, .instanceMethod yX10_readings, .selects RX10 yX10_readings yX10_readings, .initialized RX10, .code yX10_readings cX10_readings 1 (some .int), .fieldLink RX10 38 "PostingPlanner" "run" "LPostingPlanner$Run;", .fieldLink RX10 162 "PostingPlanner$Run" "tally" "LPostingPlanner$Tally;", .fieldLink RX10 166 "PostingPlanner$Tally" "sum" "I", .methodLink RX10 155 yX10_checkRun, .instanceMethod yX10_checkRun, .selects RX10 yX10_checkRun yX10_checkRun, .code yX10_checkRun cX10_checkRun 1 none, .classLink RX10 90 "java/lang/IllegalStateException", .initialized "java/lang/IllegalStateException", .fieldLink RX10 177 "PostingPlanner$Run" "isBegun" "Z"] ++ wsX100 ++ wsX60 ++ wsX80 ++ (vx_atS RX10 94 "java/lang/IllegalStateException" ["java/lang/RuntimeException", "java/lang/Exception"]).filter goodWord)
def wsL_law0_r1 : List Cond := [Cond.classLink RL 8 RX10, Cond.instantiable RX10 4, Cond.initialized RX10, Cond.classLink RL 64 RX11, Cond.instantiable RX11 35, Cond.initialized RX11, Cond.arrayClass .long, Cond.methodLink RL 63 yX10_init, Cond.instanceMethod yX10_init, Cond.code yX10_init cX10_init 1 none, Cond.methodLink RX10 1 objectInit, Cond.instanceMethod objectInit, Cond.code objectInit ⟨#[0xb1]⟩ 1 none, Cond.classLink RX10 7 RX7, Cond.instantiable RX7 1, Cond.initialized RX7, Cond.fieldLink RX10 10 "PostingPlanner" "shelf" "LPostingPlanner$Shelf;", Cond.classLink RX10 16 RX5, Cond.instantiable RX5 4, Cond.initialized RX5, Cond.fieldLink RX10 19 "PostingPlanner" "question" "LPostingPlanner$Question;", Cond.classLink RX10 23 RX2, Cond.instantiable RX2 9, Cond.initialized RX2]
def wsL_law0_r2 : List Cond := [Cond.classLink RX10 25 RX8, Cond.instantiable RX8 1, Cond.initialized RX8, Cond.fieldLink RX10 31 "PostingPlanner" "plan" "LPostingPlanner$Plan;", Cond.classLink RX10 35 RX6, Cond.instantiable RX6 4, Cond.initialized RX6, Cond.fieldLink RX10 38 "PostingPlanner" "run" "LPostingPlanner$Run;", Cond.methodLink RX10 9 yX7_init, Cond.instanceMethod yX7_init, Cond.code yX7_init cX7_init 1 none, Cond.methodLink RX7 3 objectInit, Cond.arrayClass .int, Cond.fieldLink RX7 9 "PostingPlanner$Shelf" "words" "[I", Cond.methodLink RX7 15 yJ7_fill_53178, Cond.static yJ7_fill_53178, Cond.initialized RJ7, Cond.code yJ7_fill_53178 cJ7_fill_53178 4 none, Cond.methodLink RX10 18 yX5_init, Cond.instanceMethod yX5_init, Cond.code yX5_init cX5_init 2 none, Cond.methodLink RX5 3 objectInit, Cond.classLink RX5 9 RX9, Cond.fieldLink RX5 11 "PostingPlanner$Question" "clauses" "[LPostingPlanner$ToldClause;"]
def wsL_law0_r3 : List Cond := [Cond.instantiable RX9 5, Cond.initialized RX9, Cond.fieldLink RX5 18 "PostingPlanner$Question" "kind" "I", Cond.methodLink RX5 17 yX9_init, Cond.instanceMethod yX9_init, Cond.code yX9_init cX9_init 1 none, Cond.methodLink RX9 3 objectInit, Cond.fieldLink RX9 9 "PostingPlanner$ToldClause" "codes" "[I", Cond.instanceMethod yX8_init, Cond.code yX8_init cX8_init 1 none, Cond.methodLink RX8 1 objectInit, Cond.methodLink RX10 28 yX2_init, Cond.instanceMethod yX2_init, Cond.code yX2_init cX2_init 3 none, Cond.classLink RX2 9 RX3, Cond.fieldLink RX2 11 "PostingPlanner$Plan" "clauses" "[LPostingPlanner$PlannedClause;", Cond.instantiable RX3 9, Cond.initialized RX3, Cond.methodLink RX2 3 yX0_init, Cond.instanceMethod yX0_init, Cond.initialized RX0, Cond.code yX0_init cX0_init 1 none, Cond.classLink RX0 4 RX1, Cond.fieldLink RX0 9 "PostingPlanner$Group" "parts" "[LPostingPlanner$Part;"]
def wsL_law0_r4 : List Cond := [Cond.instanceMethod yX1_init, Cond.initialized RX1, Cond.code yX1_init cX1_init 1 none, Cond.methodLink RX1 1 objectInit, Cond.methodLink RX2 17 yX3_init, Cond.instanceMethod yX3_init, Cond.code yX3_init cX3_init 4 none, Cond.fieldLink RX3 9 "PostingPlanner$PlannedClause" "rank" "I", Cond.sameField "PostingPlanner$PlannedClause" "PostingPlanner$Part" "rank" "I", Cond.classLink RX3 15 RX4, Cond.fieldLink RX3 17 "PostingPlanner$PlannedClause" "literals" "[LPostingPlanner$PlannedLiteral;", Cond.instantiable RX4 6, Cond.initialized RX4, Cond.methodLink RX3 3 yX0_init, Cond.methodLink RX3 21 yX4_init, Cond.instanceMethod yX4_init, Cond.code yX4_init cX4_init 2 none, Cond.fieldLink RX4 9 "PostingPlanner$PlannedLiteral" "tally" "LPostingPlanner$Tally;", Cond.methodLink RX10 37 yX6_init, Cond.instanceMethod yX6_init, Cond.code yX6_init cX6_init 1 none, Cond.methodLink RX6 3 objectInit, Cond.classLink RX6 9 RX8, Cond.fieldLink RX6 12 "PostingPlanner$Run" "tally" "LPostingPlanner$Tally;"]
def wsL_law0_r5 : List Cond := [Cond.classLink RX6 18 RX2, Cond.fieldLink RX6 23 "PostingPlanner$Run" "plan" "LPostingPlanner$Plan;", Cond.methodLink RX6 20 yX2_init, Cond.methodLink RL 66 yX11_init, Cond.instanceMethod yX11_init, Cond.code yX11_init cX11_init 1 none, Cond.methodLink RX11 1 objectInit, Cond.arrayClass .boolean, Cond.fieldLink RX11 7 "PostingPlannerModel" "there" "[Z", Cond.fieldLink RX11 13 "PostingPlannerModel" "words" "[I", Cond.fieldLink RX11 17 "PostingPlannerModel" "kinds" "[I", Cond.fieldLink RX11 20 "PostingPlannerModel" "needs" "[I", Cond.fieldLink RX11 23 "PostingPlannerModel" "negated" "[Z", Cond.fieldLink RX11 26 "PostingPlannerModel" "sizes" "[I", Cond.fieldLink RX11 29 "PostingPlannerModel" "literals" "[I", Cond.fieldLink RX11 32 "PostingPlannerModel" "clauseKinds" "[I", Cond.fieldLink RX11 35 "PostingPlannerModel" "clauseNeeds" "[I", Cond.fieldLink RX11 38 "PostingPlannerModel" "clauseSizes" "[I", Cond.fieldLink RX11 41 "PostingPlannerModel" "clauseLiterals" "[I", Cond.fieldLink RX11 44 "PostingPlannerModel" "estimates" "[I", Cond.fieldLink RX11 47 "PostingPlannerModel" "order" "[I", Cond.fieldLink RX11 50 "PostingPlannerModel" "runThere" "[Z", Cond.fieldLink RX11 53 "PostingPlannerModel" "runWords" "[I", Cond.fieldLink RX11 56 "PostingPlannerModel" "runKinds" "[I"]
def wsL_law0_r6 : List Cond := [Cond.fieldLink RX11 59 "PostingPlannerModel" "runNeeds" "[I", Cond.fieldLink RX11 62 "PostingPlannerModel" "runSizes" "[I", Cond.fieldLink RX11 65 "PostingPlannerModel" "runLiterals" "[I", Cond.fieldLink RX11 68 "PostingPlannerModel" "literalPlaces" "[I", Cond.fieldLink RX11 71 "PostingPlannerModel" "clausePlaces" "[I", Cond.methodLink RL 67 yL_put, Cond.static yL_put, Cond.initialized RL, Cond.codeWith yL_put cL_put 5 (some .int) [(0, 17, 20, 13), (0, 17, 24, 15)], Cond.classLink RL 13 "java/lang/IndexOutOfBoundsException", Cond.classLink RL 15 "java/lang/IllegalArgumentException", Cond.methodLink RL 7 yX10_put, Cond.instanceMethod yX10_put, Cond.selects RX10 yX10_put yX10_put, Cond.code yX10_put cX10_put 3 (some .boolean), Cond.classLink RX10 46 "java/lang/IllegalArgumentException", Cond.initialized "java/lang/IllegalArgumentException", Cond.methodLink RX10 42 yX10_checkDocument, Cond.instanceMethod yX10_checkDocument, Cond.selects RX10 yX10_checkDocument yX10_checkDocument, Cond.code yX10_checkDocument cX10_checkDocument 2 none, Cond.classLink RX10 99 "java/lang/IndexOutOfBoundsException", Cond.initialized "java/lang/IndexOutOfBoundsException", Cond.methodLink RX10 53 yX7_replace]
def wsL_law0_r7 : List Cond := [Cond.instanceMethod yX7_replace, Cond.selects RX7 yX7_replace yX7_replace, Cond.code yX7_replace cX7_replace 4 (some .boolean), Cond.methodLink RL 72 yX11_put, Cond.instanceMethod yX11_put, Cond.selects RX11 yX11_put yX11_put, Cond.code yX11_put cX11_put 4 (some .boolean), Cond.methodLink RX11 82 yX11_isDocument, Cond.static yX11_isDocument, Cond.code yX11_isDocument cX11_isDocument 1 (some .boolean), Cond.methodLink RX11 78 yX11_in, Cond.static yX11_in, Cond.code yX11_in cX11_in 3 (some .boolean), Cond.methodLink RX11 86 yX11_goes, Cond.instanceMethod yX11_goes, Cond.selects RX11 yX11_goes yX11_goes, Cond.code yX11_goes cX11_goes 4 (some .boolean), Cond.fieldLink RX11 74 "PostingPlannerModel" "last" "I", Cond.methodLink RL 73 yX11_thrown, Cond.instanceMethod yX11_thrown, Cond.selects RX11 yX11_thrown yX11_thrown, Cond.code yX11_thrown cX11_thrown 1 (some .int), Cond.methodLink RL 76 yL_drop, Cond.static yL_drop]
def wsL_law0_r8 : List Cond := [Cond.codeWith yL_drop cL_drop 4 (some .int) [(0, 16, 19, 13)], Cond.methodLink RL 17 yX10_drop, Cond.instanceMethod yX10_drop, Cond.selects RX10 yX10_drop yX10_drop, Cond.code yX10_drop cX10_drop 2 (some .boolean), Cond.methodLink RL 79 yX11_drop, Cond.instanceMethod yX11_drop, Cond.selects RX11 yX11_drop yX11_drop, Cond.code yX11_drop cX11_drop 3 (some .boolean), Cond.methodLink RL 80 yX10_documents, Cond.instanceMethod yX10_documents, Cond.selects RX10 yX10_documents yX10_documents, Cond.code yX10_documents cX10_documents 1 (some .int), Cond.methodLink RX10 57 yX7_allThere, Cond.instanceMethod yX7_allThere, Cond.selects RX7 yX7_allThere yX7_allThere, Cond.code yX7_allThere cX7_allThere 4 (some .long), Cond.methodLink RX10 61 yJ13_bitCount_95d88, Cond.static yJ13_bitCount_95d88, Cond.initialized RJ13, Cond.code yJ13_bitCount_95d88 cJ13_bitCount_95d88 2 (some .int), Cond.constantLong RJ13 314 (6148914691236517205), Cond.constantLong RJ13 316 (3689348814741910323), Cond.constantLong RJ13 318 (1085102592571150095)]
def wsL_law0_r9 : List Cond := [Cond.methodLink RL 83 yX11_documents, Cond.instanceMethod yX11_documents, Cond.selects RX11 yX11_documents yX11_documents, Cond.code yX11_documents cX11_documents 1 (some .int), Cond.methodLink RX11 90 yX11_many, Cond.instanceMethod yX11_many, Cond.selects RX11 yX11_many yX11_many, Cond.code yX11_many cX11_many 3 (some .int), Cond.methodLink RL 84 yL_count, Cond.static yL_count, Cond.codeWith yL_count cL_count 4 (some .int) [(0, 9, 12, 13)], Cond.methodLink RL 21 yX10_count, Cond.instanceMethod yX10_count, Cond.selects RX10 yX10_count yX10_count, Cond.code yX10_count cX10_count 2 (some .int), Cond.methodLink RX10 67 yX10_checkWord, Cond.instanceMethod yX10_checkWord, Cond.selects RX10 yX10_checkWord yX10_checkWord, Cond.code yX10_checkWord cX10_checkWord 2 none, Cond.methodLink RX10 70 yX10_codeOf, Cond.static yX10_codeOf, Cond.code yX10_codeOf cX10_codeOf 2 (some .int), Cond.methodLink RX10 74 yX7_truthsOf, Cond.instanceMethod yX7_truthsOf]
def wsL_law0_r10 : List Cond := [Cond.selects RX7 yX7_truthsOf yX7_truthsOf, Cond.code yX7_truthsOf cX7_truthsOf 5 (some .long), Cond.static yX10_isLiteralTrue, Cond.code yX10_isLiteralTrue cX10_isLiteralTrue 2 (some .boolean), Cond.methodLink RL 86 yX11_count, Cond.instanceMethod yX11_count, Cond.selects RX11 yX11_count yX11_count, Cond.code yX11_count cX11_count 2 (some .int), Cond.methodLink RX11 98 yX11_count0, Cond.instanceMethod yX11_count0, Cond.selects RX11 yX11_count0 yX11_count0, Cond.code yX11_count0 cX11_count0 4 (some .int), Cond.methodLink RX11 94 yX11_isTrue, Cond.static yX11_isTrue, Cond.code yX11_isTrue cX11_isTrue 2 (some .boolean), Cond.methodLink RL 87 yL_ask, Cond.static yL_ask, Cond.codeWith yL_ask cL_ask 5 (some .int) [(0, 10, 13, 15)], Cond.methodLink RL 25 yX10_ask, Cond.instanceMethod yX10_ask, Cond.selects RX10 yX10_ask yX10_ask, Cond.code yX10_ask cX10_ask 3 (some .int), Cond.methodLink RX10 78 yX10_checkKindAndNeed, Cond.instanceMethod yX10_checkKindAndNeed]
def wsL_law0_r11 : List Cond := [Cond.selects RX10 yX10_checkKindAndNeed yX10_checkKindAndNeed, Cond.code yX10_checkKindAndNeed cX10_checkKindAndNeed 6 none, Cond.methodLink RX10 82 yX5_restart, Cond.instanceMethod yX5_restart, Cond.selects RX5 yX5_restart yX5_restart, Cond.code yX5_restart cX5_restart 4 (some .int), Cond.fieldLink RX5 22 "PostingPlanner$Question" "size" "I", Cond.fieldLink RX5 25 "PostingPlanner$Question" "need" "I", Cond.methodLink RL 89 yX11_ask, Cond.instanceMethod yX11_ask, Cond.selects RX11 yX11_ask yX11_ask, Cond.code yX11_ask cX11_ask 4 (some .int), Cond.fieldLink RX11 105 "PostingPlannerModel" "clauses" "I", Cond.fieldLink RX11 108 "PostingPlannerModel" "kind" "I", Cond.fieldLink RX11 111 "PostingPlannerModel" "need" "I", Cond.methodLink RX11 102 yX11_fits, Cond.static yX11_fits, Cond.code yX11_fits cX11_fits 3 (some .boolean), Cond.methodLink RL 90 yL_clause, Cond.static yL_clause, Cond.codeWith yL_clause cL_clause 6 (some .int) [(0, 12, 15, 15), (0, 12, 19, 33)], Cond.classLink RL 33 "java/lang/IllegalStateException", Cond.methodLink RL 29 yX10_clause, Cond.instanceMethod yX10_clause]
def wsL_law0_r12 : List Cond := [Cond.selects RX10 yX10_clause yX10_clause, Cond.code yX10_clause cX10_clause 5 (some .int), Cond.classLink RX10 90 "java/lang/IllegalStateException", Cond.initialized "java/lang/IllegalStateException", Cond.methodLink RX10 86 yX5_append, Cond.instanceMethod yX5_append, Cond.selects RX5 yX5_append yX5_append, Cond.code yX5_append cX5_append 4 (some .int), Cond.methodLink RX5 28 yX9_restart, Cond.instanceMethod yX9_restart, Cond.selects RX9 yX9_restart yX9_restart, Cond.code yX9_restart cX9_restart 4 none, Cond.fieldLink RX9 15 "PostingPlanner$ToldClause" "kind" "I", Cond.fieldLink RX9 19 "PostingPlanner$ToldClause" "need" "I", Cond.fieldLink RX9 22 "PostingPlanner$ToldClause" "isNegated" "Z", Cond.fieldLink RX9 26 "PostingPlanner$ToldClause" "size" "I", Cond.methodLink RL 93 yX11_clause, Cond.instanceMethod yX11_clause, Cond.selects RX11 yX11_clause yX11_clause, Cond.code yX11_clause cX11_clause 4 (some .int), Cond.methodLink RL 94 yL_literal, Cond.static yL_literal, Cond.codeWith yL_literal cL_literal 6 (some .int) [(0, 12, 15, 13), (0, 12, 19, 33)], Cond.methodLink RL 35 yX10_literal]
def wsL_law0_r13 : List Cond := [Cond.instanceMethod yX10_literal, Cond.selects RX10 yX10_literal yX10_literal, Cond.code yX10_literal cX10_literal 5 (some .int), Cond.fieldLink RX10 111 "PostingPlanner$ToldClause" "size" "I", Cond.methodLink RX10 95 yX5_toldAt, Cond.instanceMethod yX5_toldAt, Cond.selects RX5 yX5_toldAt yX5_toldAt, Cond.code yX5_toldAt cX5_toldAt 2 (some (.object "PostingPlanner$ToldClause")), Cond.methodLink RX10 104 yX9_append, Cond.instanceMethod yX9_append, Cond.selects RX9 yX9_append yX9_append, Cond.code yX9_append cX9_append 2 (some .boolean), Cond.methodLink RL 96 yX11_literal, Cond.instanceMethod yX11_literal, Cond.selects RX11 yX11_literal yX11_literal, Cond.code yX11_literal cX11_literal 5 (some .int), Cond.methodLink RL 97 yL_matches, Cond.static yL_matches, Cond.codeWith yL_matches cL_matches 4 (some .int) [(0, 16, 19, 13)], Cond.methodLink RL 38 yX10_matches, Cond.instanceMethod yX10_matches, Cond.selects RX10 yX10_matches yX10_matches, Cond.code yX10_matches cX10_matches 2 (some .boolean), Cond.methodLink RX10 115 yX10_isHit]
def wsL_law0_r14 : List Cond := [Cond.instanceMethod yX10_isHit, Cond.selects RX10 yX10_isHit yX10_isHit, Cond.code yX10_isHit cX10_isHit 3 (some .boolean), Cond.methodLink RX10 183 yX7_wordsAt, Cond.instanceMethod yX7_wordsAt, Cond.selects RX7 yX7_wordsAt yX7_wordsAt, Cond.code yX7_wordsAt cX7_wordsAt 2 (some .int), Cond.methodLink RX10 186 yX5_isTrueOf, Cond.instanceMethod yX5_isTrueOf, Cond.selects RX5 yX5_isTrueOf yX5_isTrueOf, Cond.code yX5_isTrueOf cX5_isTrueOf 5 (some .boolean), Cond.methodLink RX5 32 yX5_toldAt, Cond.methodLink RX5 36 yX9_isTrueOf, Cond.instanceMethod yX9_isTrueOf, Cond.selects RX9 yX9_isTrueOf yX9_isTrueOf, Cond.code yX9_isTrueOf cX9_isTrueOf 4 (some .boolean), Cond.static yX10_isEnough, Cond.code yX10_isEnough cX10_isEnough 4 (some .boolean), Cond.methodLink RL 99 yX11_matches, Cond.instanceMethod yX11_matches, Cond.selects RX11 yX11_matches yX11_matches, Cond.code yX11_matches cX11_matches 2 (some .boolean), Cond.methodLink RX11 118 yX11_isMatch, Cond.instanceMethod yX11_isMatch]
def wsL_law0_r15 : List Cond := [Cond.selects RX11 yX11_isMatch yX11_isMatch, Cond.code yX11_isMatch cX11_isMatch 6 (some .boolean), Cond.methodLink RX11 114 yX11_isBy, Cond.static yX11_isBy, Cond.code yX11_isBy cX11_isBy 4 (some .boolean), Cond.methodLink RL 100 yX10_hits, Cond.instanceMethod yX10_hits, Cond.selects RX10 yX10_hits yX10_hits, Cond.code yX10_hits cX10_hits 3 (some .int), Cond.methodLink RL 103 yX11_hits, Cond.instanceMethod yX11_hits, Cond.selects RX11 yX11_hits yX11_hits, Cond.code yX11_hits cX11_hits 3 (some .int), Cond.methodLink RL 104 yX10_planKind, Cond.instanceMethod yX10_planKind, Cond.selects RX10 yX10_planKind yX10_planKind, Cond.code yX10_planKind cX10_planKind 1 (some .int), Cond.fieldLink RX10 122 "PostingPlanner$Plan" "kind" "I", Cond.sameField "PostingPlanner$Plan" "PostingPlanner$Group" "kind" "I", Cond.methodLink RX10 118 yX2_make, Cond.instanceMethod yX2_make, Cond.selects RX2 yX2_make yX2_make, Cond.code yX2_make cX2_make 7 none, Cond.fieldLink RX2 26 "PostingPlanner$Question" "kind" "I"]
def wsL_law0_r16 : List Cond := [Cond.fieldLink RX2 32 "PostingPlanner$Question" "need" "I", Cond.fieldLink RX2 55 "PostingPlanner$Plan" "size" "I", Cond.sameField "PostingPlanner$Plan" "PostingPlanner$Group" "size" "I", Cond.methodLink RX2 20 yX7_allThere, Cond.methodLink RX2 35 ⟨"PostingPlanner$Plan", "restart", "(IIJ)V"⟩, Cond.sameMethod "PostingPlanner$Plan" "PostingPlanner$Group" "restart" "(IIJ)V", Cond.selects RX2 ⟨"PostingPlanner$Plan", "restart", "(IIJ)V"⟩ yX0_restart, Cond.instanceMethod yX0_restart, Cond.code yX0_restart cX0_restart 5 none, Cond.fieldLink RX0 15 "PostingPlanner$Group" "kind" "I", Cond.fieldLink RX0 19 "PostingPlanner$Group" "need" "I", Cond.fieldLink RX0 22 "PostingPlanner$Group" "size" "I", Cond.fieldLink RX0 25 "PostingPlanner$Group" "there" "J", Cond.fieldLink RX0 29 "PostingPlanner$Group" "place" "I", Cond.sameField "PostingPlanner$Group" "PostingPlanner$Part" "place" "I", Cond.methodLink RX2 39 ⟨"PostingPlanner$Plan", "isFixed", "()Z"⟩, Cond.sameMethod "PostingPlanner$Plan" "PostingPlanner$Group" "isFixed" "()Z", Cond.selects RX2 ⟨"PostingPlanner$Plan", "isFixed", "()Z"⟩ yX0_isFixed, Cond.instanceMethod yX0_isFixed, Cond.code yX0_isFixed cX0_isFixed 1 (some .boolean), Cond.methodLink RX2 43 yX5_toldAt, Cond.methodLink RX2 47 yX3_make, Cond.instanceMethod yX3_make, Cond.selects RX3 yX3_make yX3_make]
def wsL_law0_r17 : List Cond := [Cond.code yX3_make cX3_make 5 none, Cond.fieldLink RX3 24 "PostingPlanner$ToldClause" "kind" "I", Cond.fieldLink RX3 29 "PostingPlanner$ToldClause" "need" "I", Cond.fieldLink RX3 36 "PostingPlanner$ToldClause" "isNegated" "Z", Cond.fieldLink RX3 40 "PostingPlanner$ToldClause" "size" "I", Cond.methodLink RX3 32 ⟨"PostingPlanner$PlannedClause", "restart", "(IIJ)V"⟩, Cond.sameMethod "PostingPlanner$PlannedClause" "PostingPlanner$Group" "restart" "(IIJ)V", Cond.selects RX3 ⟨"PostingPlanner$PlannedClause", "restart", "(IIJ)V"⟩ yX0_restart, Cond.methodLink RX3 43 yX3_turn, Cond.instanceMethod yX3_turn, Cond.selects RX3 yX3_turn yX3_turn, Cond.code yX3_turn cX3_turn 2 none, Cond.fieldLink RX3 66 "PostingPlanner$PlannedClause" "kind" "I", Cond.sameField "PostingPlanner$PlannedClause" "PostingPlanner$Group" "kind" "I", Cond.fieldLink RX3 67 "PostingPlanner$PlannedClause" "need" "I", Cond.sameField "PostingPlanner$PlannedClause" "PostingPlanner$Group" "need" "I", Cond.methodLink RX3 47 ⟨"PostingPlanner$PlannedClause", "settleSome", "(I)V"⟩, Cond.sameMethod "PostingPlanner$PlannedClause" "PostingPlanner$Group" "settleSome" "(I)V", Cond.selects RX3 ⟨"PostingPlanner$PlannedClause", "settleSome", "(I)V"⟩ yX0_settleSome, Cond.instanceMethod yX0_settleSome, Cond.code yX0_settleSome cX0_settleSome 2 none, Cond.methodLink RX0 39 ⟨"PostingPlanner$Group", "fix", "(I)V"⟩, Cond.sameMethod "PostingPlanner$Group" "PostingPlanner$Group" "fix" "(I)V", Cond.selects RX2 ⟨"PostingPlanner$Group", "fix", "(I)V"⟩ yX0_fix]
def wsL_law0_r18 : List Cond := [Cond.instanceMethod yX0_fix, Cond.code yX0_fix cX0_fix 2 none, Cond.selects RX3 ⟨"PostingPlanner$Group", "fix", "(I)V"⟩ yX0_fix, Cond.methodLink RX3 50 yX3_keepLiterals, Cond.instanceMethod yX3_keepLiterals, Cond.selects RX3 yX3_keepLiterals yX3_keepLiterals, Cond.code yX3_keepLiterals cX3_keepLiterals 7 none, Cond.fieldLink RX3 72 "PostingPlanner$ToldClause" "codes" "[I", Cond.methodLink RX3 68 ⟨"PostingPlanner$PlannedClause", "isFixed", "()Z"⟩, Cond.sameMethod "PostingPlanner$PlannedClause" "PostingPlanner$Group" "isFixed" "()Z", Cond.selects RX3 ⟨"PostingPlanner$PlannedClause", "isFixed", "()Z"⟩ yX0_isFixed, Cond.static yX10_contraryOf, Cond.code yX10_contraryOf cX10_contraryOf 1 (some .int), Cond.methodLink RX3 80 ⟨"PostingPlanner$PlannedClause", "hasRank", "(I)Z"⟩, Cond.sameMethod "PostingPlanner$PlannedClause" "PostingPlanner$Group" "hasRank" "(I)Z", Cond.selects RX3 ⟨"PostingPlanner$PlannedClause", "hasRank", "(I)Z"⟩ yX0_hasRank, Cond.instanceMethod yX0_hasRank, Cond.code yX0_hasRank cX0_hasRank 4 (some .boolean), Cond.fieldLink RX0 36 "PostingPlanner$Part" "rank" "I", Cond.methodLink RX0 32 ⟨"PostingPlanner$Group", "partAt", "(I)LPostingPlanner$Part;"⟩, Cond.sameMethod "PostingPlanner$Group" "PostingPlanner$Group" "partAt" "(I)LPostingPlanner$Part;", Cond.selects RX2 ⟨"PostingPlanner$Group", "partAt", "(I)LPostingPlanner$Part;"⟩ yX0_partAt, Cond.instanceMethod yX0_partAt, Cond.code yX0_partAt cX0_partAt 2 (some (.object "PostingPlanner$Part"))]
def wsL_law0_r19 : List Cond := [Cond.selects RX3 ⟨"PostingPlanner$Group", "partAt", "(I)LPostingPlanner$Part;"⟩ yX0_partAt, Cond.methodLink RX3 84 yX7_truthsOf, Cond.methodLink RX3 90 yX4_make, Cond.instanceMethod yX4_make, Cond.selects RX4 yX4_make yX4_make, Cond.code yX4_make cX4_make 6 none, Cond.fieldLink RX4 15 "PostingPlanner$PlannedLiteral" "there" "J", Cond.fieldLink RX4 19 "PostingPlanner$PlannedLiteral" "truths" "J", Cond.fieldLink RX4 22 "PostingPlanner$PlannedLiteral" "rank" "I", Cond.sameField "PostingPlanner$PlannedLiteral" "PostingPlanner$Part" "rank" "I", Cond.fieldLink RX4 32 "PostingPlanner$PlannedLiteral" "estimate" "I", Cond.sameField "PostingPlanner$PlannedLiteral" "PostingPlanner$Part" "estimate" "I", Cond.fieldLink RX4 35 "PostingPlanner$PlannedLiteral" "place" "I", Cond.sameField "PostingPlanner$PlannedLiteral" "PostingPlanner$Part" "place" "I", Cond.methodLink RX4 26 yJ13_bitCount_95d88, Cond.methodLink RX3 94 ⟨"PostingPlanner$PlannedClause", "keep", "(LPostingPlanner$Part;)V"⟩, Cond.sameMethod "PostingPlanner$PlannedClause" "PostingPlanner$Group" "keep" "(LPostingPlanner$Part;)V", Cond.selects RX3 ⟨"PostingPlanner$PlannedClause", "keep", "(LPostingPlanner$Part;)V"⟩ yX0_keep, Cond.instanceMethod yX0_keep, Cond.code yX0_keep cX0_keep 2 none, Cond.methodLink RX3 54 yX3_settleContraries, Cond.instanceMethod yX3_settleContraries, Cond.selects RX3 yX3_settleContraries yX3_settleContraries, Cond.code yX3_settleContraries cX3_settleContraries 3 none]
def wsL_law0_r20 : List Cond := [Cond.fieldLink RX3 98 "PostingPlanner$PlannedClause" "size" "I", Cond.sameField "PostingPlanner$PlannedClause" "PostingPlanner$Group" "size" "I", Cond.fieldLink RX3 103 "PostingPlanner$Part" "rank" "I", Cond.methodLink RX3 99 ⟨"PostingPlanner$PlannedClause", "partAt", "(I)LPostingPlanner$Part;"⟩, Cond.sameMethod "PostingPlanner$PlannedClause" "PostingPlanner$Group" "partAt" "(I)LPostingPlanner$Part;", Cond.selects RX3 ⟨"PostingPlanner$PlannedClause", "partAt", "(I)LPostingPlanner$Part;"⟩ yX0_partAt, Cond.methodLink RX3 106 ⟨"PostingPlanner$PlannedClause", "fix", "(I)V"⟩, Cond.sameMethod "PostingPlanner$PlannedClause" "PostingPlanner$Group" "fix" "(I)V", Cond.selects RX3 ⟨"PostingPlanner$PlannedClause", "fix", "(I)V"⟩ yX0_fix, Cond.methodLink RX3 57 ⟨"PostingPlanner$PlannedClause", "settleEmpty", "()V"⟩, Cond.sameMethod "PostingPlanner$PlannedClause" "PostingPlanner$Group" "settleEmpty" "()V", Cond.selects RX3 ⟨"PostingPlanner$PlannedClause", "settleEmpty", "()V"⟩ yX0_settleEmpty, Cond.instanceMethod yX0_settleEmpty, Cond.code yX0_settleEmpty cX0_settleEmpty 1 none, Cond.methodLink RX3 60 ⟨"PostingPlanner$PlannedClause", "appraise", "()V"⟩, Cond.sameMethod "PostingPlanner$PlannedClause" "PostingPlanner$Group" "appraise" "()V", Cond.selects RX3 ⟨"PostingPlanner$PlannedClause", "appraise", "()V"⟩ yX0_appraise, Cond.instanceMethod yX0_appraise, Cond.code yX0_appraise cX0_appraise 2 none, Cond.fieldLink RX0 53 "PostingPlanner$Group" "estimate" "I", Cond.sameField "PostingPlanner$Group" "PostingPlanner$Part" "estimate" "I", Cond.methodLink RX0 60 Lib.Math.min.name, Cond.static Lib.Math.min.name, Cond.initialized "java/lang/Math"]
def wsL_law0_r21 : List Cond := [Cond.code Lib.Math.min.name Lib.Math.min.code 2 (some .int), Cond.methodLink RX0 43 yJ13_bitCount_95d88, Cond.methodLink RX0 49 ⟨"PostingPlanner$Group", "leastEstimate", "(I)I"⟩, Cond.sameMethod "PostingPlanner$Group" "PostingPlanner$Group" "leastEstimate" "(I)I", Cond.selects RX2 ⟨"PostingPlanner$Group", "leastEstimate", "(I)I"⟩ yX0_leastEstimate, Cond.instanceMethod yX0_leastEstimate, Cond.code yX0_leastEstimate cX0_leastEstimate 5 (some .int), Cond.fieldLink RX0 66 "PostingPlanner$Part" "estimate" "I", Cond.selects RX3 ⟨"PostingPlanner$Group", "leastEstimate", "(I)I"⟩ yX0_leastEstimate, Cond.methodLink RX0 56 ⟨"PostingPlanner$Group", "sumOfEstimates", "()I"⟩, Cond.sameMethod "PostingPlanner$Group" "PostingPlanner$Group" "sumOfEstimates" "()I", Cond.selects RX2 ⟨"PostingPlanner$Group", "sumOfEstimates", "()I"⟩ yX0_sumOfEstimates, Cond.instanceMethod yX0_sumOfEstimates, Cond.code yX0_sumOfEstimates cX0_sumOfEstimates 4 (some .int), Cond.selects RX3 ⟨"PostingPlanner$Group", "sumOfEstimates", "()I"⟩ yX0_sumOfEstimates, Cond.methodLink RX3 63 ⟨"PostingPlanner$PlannedClause", "order", "()V"⟩, Cond.sameMethod "PostingPlanner$PlannedClause" "PostingPlanner$Group" "order" "()V", Cond.selects RX3 ⟨"PostingPlanner$PlannedClause", "order", "()V"⟩ yX0_order, Cond.instanceMethod yX0_order, Cond.code yX0_order cX0_order 4 none, Cond.methodLink RX0 67 ⟨"PostingPlanner$Group", "isBefore", "(LPostingPlanner$Part;LPostingPlanner$Part;)Z"⟩, Cond.sameMethod "PostingPlanner$Group" "PostingPlanner$Group" "isBefore" "(LPostingPlanner$Part;LPostingPlanner$Part;)Z", Cond.selects RX2 ⟨"PostingPlanner$Group", "isBefore", "(LPostingPlanner$Part;LPostingPlanner$Part;)Z"⟩ yX0_isBefore, Cond.instanceMethod yX0_isBefore]
def wsL_law0_r22 : List Cond := [Cond.code yX0_isBefore cX0_isBefore 3 (some .boolean), Cond.selects RX3 ⟨"PostingPlanner$Group", "isBefore", "(LPostingPlanner$Part;LPostingPlanner$Part;)Z"⟩ yX0_isBefore, Cond.methodLink RX2 51 yX2_takeIn, Cond.instanceMethod yX2_takeIn, Cond.selects RX2 yX2_takeIn yX2_takeIn, Cond.code yX2_takeIn cX2_takeIn 2 none, Cond.fieldLink RX2 76 "PostingPlanner$PlannedClause" "kind" "I", Cond.fieldLink RX2 77 "PostingPlanner$Plan" "kind" "I", Cond.fieldLink RX2 78 "PostingPlanner$Plan" "need" "I", Cond.sameField "PostingPlanner$Plan" "PostingPlanner$Group" "need" "I", Cond.methodLink RX2 71 ⟨"PostingPlanner$PlannedClause", "isFixed", "()Z"⟩, Cond.methodLink RX2 72 ⟨"PostingPlanner$Plan", "keep", "(LPostingPlanner$Part;)V"⟩, Cond.sameMethod "PostingPlanner$Plan" "PostingPlanner$Group" "keep" "(LPostingPlanner$Part;)V", Cond.selects RX2 ⟨"PostingPlanner$Plan", "keep", "(LPostingPlanner$Part;)V"⟩ yX0_keep, Cond.methodLink RX2 79 ⟨"PostingPlanner$Plan", "fix", "(I)V"⟩, Cond.sameMethod "PostingPlanner$Plan" "PostingPlanner$Group" "fix" "(I)V", Cond.selects RX2 ⟨"PostingPlanner$Plan", "fix", "(I)V"⟩ yX0_fix, Cond.methodLink RX2 58 ⟨"PostingPlanner$Plan", "settleSome", "(I)V"⟩, Cond.sameMethod "PostingPlanner$Plan" "PostingPlanner$Group" "settleSome" "(I)V", Cond.selects RX2 ⟨"PostingPlanner$Plan", "settleSome", "(I)V"⟩ yX0_settleSome, Cond.methodLink RX2 62 ⟨"PostingPlanner$Plan", "settleEmpty", "()V"⟩, Cond.sameMethod "PostingPlanner$Plan" "PostingPlanner$Group" "settleEmpty" "()V", Cond.selects RX2 ⟨"PostingPlanner$Plan", "settleEmpty", "()V"⟩ yX0_settleEmpty, Cond.methodLink RX2 65 ⟨"PostingPlanner$Plan", "appraise", "()V"⟩]
def wsL_law0_r23 : List Cond := [Cond.sameMethod "PostingPlanner$Plan" "PostingPlanner$Group" "appraise" "()V", Cond.selects RX2 ⟨"PostingPlanner$Plan", "appraise", "()V"⟩ yX0_appraise, Cond.methodLink RX2 68 ⟨"PostingPlanner$Plan", "order", "()V"⟩, Cond.sameMethod "PostingPlanner$Plan" "PostingPlanner$Group" "order" "()V", Cond.selects RX2 ⟨"PostingPlanner$Plan", "order", "()V"⟩ yX0_order, Cond.methodLink RL 107 yX11_planKind, Cond.instanceMethod yX11_planKind, Cond.selects RX11 yX11_planKind yX11_planKind, Cond.code yX11_planKind cX11_planKind 1 (some .int), Cond.fieldLink RX11 135 "PostingPlannerModel" "planKind" "I", Cond.methodLink RX11 156 yX11_makes, Cond.instanceMethod yX11_makes, Cond.selects RX11 yX11_makes yX11_makes, Cond.code yX11_makes cX11_makes 6 none, Cond.fieldLink RX11 138 "PostingPlannerModel" "planNeed" "I", Cond.fieldLink RX11 141 "PostingPlannerModel" "planSize" "I", Cond.methodLink RX11 144 yX11_plainly, Cond.instanceMethod yX11_plainly, Cond.selects RX11 yX11_plainly yX11_plainly, Cond.code yX11_plainly cX11_plainly 6 none, Cond.methodLink RX11 121 yX11_some, Cond.static yX11_some, Cond.code yX11_some cX11_some 2 (some .int), Cond.methodLink RX11 148 yX11_thins]
def wsL_law0_r24 : List Cond := [Cond.instanceMethod yX11_thins, Cond.selects RX11 yX11_thins yX11_thins, Cond.code yX11_thins cX11_thins 6 none, Cond.methodLink RX11 125 yX11_hasAhead, Cond.instanceMethod yX11_hasAhead, Cond.selects RX11 yX11_hasAhead yX11_hasAhead, Cond.code yX11_hasAhead cX11_hasAhead 6 (some .boolean), Cond.methodLink RX11 151 yX11_sorts, Cond.instanceMethod yX11_sorts, Cond.selects RX11 yX11_sorts yX11_sorts, Cond.code yX11_sorts cX11_sorts 5 none, Cond.methodLink RX11 128 yX11_isAhead, Cond.instanceMethod yX11_isAhead, Cond.selects RX11 yX11_isAhead yX11_isAhead, Cond.code yX11_isAhead cX11_isAhead 5 (some .boolean), Cond.methodLink RX11 154 yX11_estimates, Cond.instanceMethod yX11_estimates, Cond.selects RX11 yX11_estimates yX11_estimates, Cond.code yX11_estimates cX11_estimates 6 none, Cond.methodLink RX11 131 yX11_estimated, Cond.instanceMethod yX11_estimated, Cond.selects RX11 yX11_estimated yX11_estimated, Cond.code yX11_estimated cX11_estimated 6 (some .int), Cond.methodLink RL 108 yX10_planNeed]
def wsL_law0_r25 : List Cond := [Cond.instanceMethod yX10_planNeed, Cond.selects RX10 yX10_planNeed yX10_planNeed, Cond.code yX10_planNeed cX10_planNeed 1 (some .int), Cond.fieldLink RX10 125 "PostingPlanner$Plan" "need" "I", Cond.methodLink RL 111 yX11_planNeed, Cond.instanceMethod yX11_planNeed, Cond.selects RX11 yX11_planNeed yX11_planNeed, Cond.code yX11_planNeed cX11_planNeed 1 (some .int), Cond.methodLink RL 112 yX10_planSize, Cond.instanceMethod yX10_planSize, Cond.selects RX10 yX10_planSize yX10_planSize, Cond.code yX10_planSize cX10_planSize 1 (some .int), Cond.fieldLink RX10 128 "PostingPlanner$Plan" "size" "I", Cond.methodLink RL 115 yX11_planSize, Cond.instanceMethod yX11_planSize, Cond.selects RX11 yX11_planSize yX11_planSize, Cond.code yX11_planSize cX11_planSize 1 (some .int), Cond.methodLink RL 116 yX10_estimate, Cond.instanceMethod yX10_estimate, Cond.selects RX10 yX10_estimate yX10_estimate, Cond.code yX10_estimate cX10_estimate 1 (some .int), Cond.fieldLink RX10 129 "PostingPlanner$Plan" "estimate" "I", Cond.sameField "PostingPlanner$Plan" "PostingPlanner$Part" "estimate" "I", Cond.methodLink RL 119 yX11_estimate]
def wsL_law0_r26 : List Cond := [Cond.instanceMethod yX11_estimate, Cond.selects RX11 yX11_estimate yX11_estimate, Cond.code yX11_estimate cX11_estimate 1 (some .int), Cond.methodLink RX11 159 yX11_planEstimate, Cond.instanceMethod yX11_planEstimate, Cond.selects RX11 yX11_planEstimate yX11_planEstimate, Cond.code yX11_planEstimate cX11_planEstimate 4 (some .int), Cond.methodLink RL 120 yL_clauseAt, Cond.static yL_clauseAt, Cond.codeWith yL_clauseAt cL_clauseAt 4 (some .int) [(0, 9, 12, 15)], Cond.methodLink RL 41 yX10_clauseAt, Cond.instanceMethod yX10_clauseAt, Cond.selects RX10 yX10_clauseAt yX10_clauseAt, Cond.code yX10_clauseAt cX10_clauseAt 2 (some .int), Cond.fieldLink RX10 136 "PostingPlanner$PlannedClause" "rank" "I", Cond.methodLink RX10 132 yX10_plannedClause, Cond.instanceMethod yX10_plannedClause, Cond.selects RX10 yX10_plannedClause yX10_plannedClause, Cond.code yX10_plannedClause cX10_plannedClause 3 (some (.object "PostingPlanner$PlannedClause")), Cond.methodLink RX10 189 yX2_plannedAt, Cond.instanceMethod yX2_plannedAt, Cond.selects RX2 yX2_plannedAt yX2_plannedAt, Cond.code yX2_plannedAt cX2_plannedAt 3 (some (.object "PostingPlanner$PlannedClause")), Cond.fieldLink RX2 86 "PostingPlanner$Part" "rank" "I"]
def wsL_law0_r27 : List Cond := [Cond.methodLink RX2 82 ⟨"PostingPlanner$Plan", "partAt", "(I)LPostingPlanner$Part;"⟩, Cond.sameMethod "PostingPlanner$Plan" "PostingPlanner$Group" "partAt" "(I)LPostingPlanner$Part;", Cond.selects RX2 ⟨"PostingPlanner$Plan", "partAt", "(I)LPostingPlanner$Part;"⟩ yX0_partAt, Cond.methodLink RL 122 yX11_clauseAt, Cond.instanceMethod yX11_clauseAt, Cond.selects RX11 yX11_clauseAt yX11_clauseAt, Cond.code yX11_clauseAt cX11_clauseAt 2 (some .int), Cond.methodLink RX11 162 yX11_isPlace, Cond.instanceMethod yX11_isPlace, Cond.selects RX11 yX11_isPlace yX11_isPlace, Cond.code yX11_isPlace cX11_isPlace 2 (some .boolean), Cond.methodLink RL 123 yL_kindAt, Cond.static yL_kindAt, Cond.codeWith yL_kindAt cL_kindAt 4 (some .int) [(0, 9, 12, 15)], Cond.methodLink RL 44 yX10_kindAt, Cond.instanceMethod yX10_kindAt, Cond.selects RX10 yX10_kindAt yX10_kindAt, Cond.code yX10_kindAt cX10_kindAt 2 (some .int), Cond.fieldLink RX10 141 "PostingPlanner$PlannedClause" "kind" "I", Cond.methodLink RL 125 yX11_kindAt, Cond.instanceMethod yX11_kindAt, Cond.selects RX11 yX11_kindAt yX11_kindAt, Cond.code yX11_kindAt cX11_kindAt 2 (some .int), Cond.methodLink RL 126 yL_estimateAt]
def wsL_law0_r28 : List Cond := [Cond.static yL_estimateAt, Cond.codeWith yL_estimateAt cL_estimateAt 4 (some .int) [(0, 9, 12, 15)], Cond.methodLink RL 47 yX10_estimateAt, Cond.instanceMethod yX10_estimateAt, Cond.selects RX10 yX10_estimateAt yX10_estimateAt, Cond.code yX10_estimateAt cX10_estimateAt 2 (some .int), Cond.fieldLink RX10 142 "PostingPlanner$PlannedClause" "estimate" "I", Cond.sameField "PostingPlanner$PlannedClause" "PostingPlanner$Part" "estimate" "I", Cond.methodLink RL 128 yX11_estimateAt, Cond.instanceMethod yX11_estimateAt, Cond.selects RX11 yX11_estimateAt yX11_estimateAt, Cond.code yX11_estimateAt cX11_estimateAt 2 (some .int), Cond.methodLink RL 129 yL_literalAt, Cond.static yL_literalAt, Cond.codeWith yL_literalAt cL_literalAt 5 (some .int) [(0, 10, 13, 15)], Cond.methodLink RL 50 yX10_literalAt, Cond.instanceMethod yX10_literalAt, Cond.selects RX10 yX10_literalAt yX10_literalAt, Cond.code yX10_literalAt cX10_literalAt 4 (some .int), Cond.fieldLink RX10 149 "PostingPlanner$Part" "rank" "I", Cond.methodLink RX10 143 ⟨"PostingPlanner$PlannedClause", "partAt", "(I)LPostingPlanner$Part;"⟩, Cond.methodLink RL 131 yX11_literalAt, Cond.instanceMethod yX11_literalAt, Cond.selects RX11 yX11_literalAt yX11_literalAt]
def wsL_law0_r29 : List Cond := [Cond.code yX11_literalAt cX11_literalAt 4 (some .int), Cond.methodLink RL 132 yX10_begin, Cond.instanceMethod yX10_begin, Cond.selects RX10 yX10_begin yX10_begin, Cond.code yX10_begin cX10_begin 1 (some .int), Cond.methodLink RX10 152 yX6_restart, Cond.instanceMethod yX6_restart, Cond.selects RX6 yX6_restart yX6_restart, Cond.code yX6_restart cX6_restart 3 (some .int), Cond.fieldLink RX6 31 "PostingPlanner$Tally" "sum" "I", Cond.fieldLink RX6 35 "PostingPlanner$Run" "isBegun" "Z", Cond.fieldLink RX6 39 "PostingPlanner$Run" "given" "I", Cond.fieldLink RX6 42 "PostingPlanner$Plan" "estimate" "I", Cond.methodLink RX6 27 yX2_make, Cond.methodLink RL 135 yX11_begin, Cond.instanceMethod yX11_begin, Cond.selects RX11 yX11_begin yX11_begin, Cond.code yX11_begin cX11_begin 4 (some .int), Cond.fieldLink RX11 165 "PostingPlannerModel" "runs" "Z", Cond.fieldLink RX11 169 "PostingPlannerModel" "runKind" "I", Cond.fieldLink RX11 172 "PostingPlannerModel" "runNeed" "I", Cond.fieldLink RX11 175 "PostingPlannerModel" "runSize" "I", Cond.fieldLink RX11 178 "PostingPlannerModel" "given" "I", Cond.fieldLink RX11 181 "PostingPlannerModel" "isOver" "Z"]
def wsL_law0_r30 : List Cond := [Cond.fieldLink RX11 184 "PostingPlannerModel" "readings" "I", Cond.methodLink RL 136 yL_leap, Cond.static yL_leap, Cond.codeWith yL_leap cL_leap 4 (some .int) [(0, 9, 12, 13), (0, 9, 15, 33)], Cond.methodLink RL 53 yX10_leap, Cond.instanceMethod yX10_leap, Cond.selects RX10 yX10_leap yX10_leap, Cond.code yX10_leap cX10_leap 2 (some .int), Cond.methodLink RX10 155 yX10_checkRun, Cond.instanceMethod yX10_checkRun, Cond.selects RX10 yX10_checkRun yX10_checkRun, Cond.code yX10_checkRun cX10_checkRun 1 none, Cond.fieldLink RX10 177 "PostingPlanner$Run" "isBegun" "Z", Cond.methodLink RX10 158 yX6_advance, Cond.instanceMethod yX6_advance, Cond.selects RX6 yX6_advance yX6_advance, Cond.code yX6_advance cX6_advance 4 (some .int), Cond.methodLink RX6 45 Lib.Math.max.name, Cond.static Lib.Math.max.name, Cond.code Lib.Math.max.name Lib.Math.max.code 2 (some .int), Cond.methodLink RX6 51 ⟨"PostingPlanner$Plan", "seek", "(II)I"⟩, Cond.sameMethod "PostingPlanner$Plan" "PostingPlanner$Group" "seek" "(II)I", Cond.selects RX2 ⟨"PostingPlanner$Plan", "seek", "(II)I"⟩ yX0_seek, Cond.instanceMethod yX0_seek]
def wsL_law0_r31 : List Cond := [Cond.code yX0_seek cX0_seek 3 (some .int), Cond.methodLink RX0 71 ⟨"PostingPlanner$Group", "seekAll", "(II)I"⟩, Cond.sameMethod "PostingPlanner$Group" "PostingPlanner$Group" "seekAll" "(II)I", Cond.selects RX2 ⟨"PostingPlanner$Group", "seekAll", "(II)I"⟩ yX0_seekAll, Cond.instanceMethod yX0_seekAll, Cond.selects RX3 ⟨"PostingPlanner$Group", "seekAll", "(II)I"⟩ yX0_seekAll, Cond.methodLink RX0 74 ⟨"PostingPlanner$Group", "seekAny", "(II)I"⟩, Cond.sameMethod "PostingPlanner$Group" "PostingPlanner$Group" "seekAny" "(II)I", Cond.selects RX2 ⟨"PostingPlanner$Group", "seekAny", "(II)I"⟩ yX0_seekAny, Cond.instanceMethod yX0_seekAny, Cond.selects RX3 ⟨"PostingPlanner$Group", "seekAny", "(II)I"⟩ yX0_seekAny, Cond.methodLink RX0 77 ⟨"PostingPlanner$Group", "seekSome", "(II)I"⟩, Cond.sameMethod "PostingPlanner$Group" "PostingPlanner$Group" "seekSome" "(II)I", Cond.selects RX2 ⟨"PostingPlanner$Group", "seekSome", "(II)I"⟩ yX0_seekSome, Cond.instanceMethod yX0_seekSome, Cond.selects RX3 ⟨"PostingPlanner$Group", "seekSome", "(II)I"⟩ yX0_seekSome, Cond.static yX10_firstOf, Cond.code yX10_firstOf cX10_firstOf 4 (some .int), Cond.code yX0_seekAll cX0_seekAll 8 (some .int), Cond.methodLink RX0 84 ⟨"PostingPlanner$Part", "seek", "(II)I"⟩, Cond.sameMethod "PostingPlanner$Part" "PostingPlanner$Part" "seek" "(II)I", Cond.selects RX2 ⟨"PostingPlanner$Part", "seek", "(II)I"⟩ yX0_seek, Cond.selects RX3 ⟨"PostingPlanner$Part", "seek", "(II)I"⟩ yX0_seek, Cond.selects RX4 ⟨"PostingPlanner$Part", "seek", "(II)I"⟩ yX4_seek]
def wsL_law0_r32 : List Cond := [Cond.instanceMethod yX4_seek, Cond.code yX4_seek cX4_seek 3 (some .int), Cond.fieldLink RX4 42 "PostingPlanner$Tally" "sum" "I", Cond.methodLink RX4 47 yX4_cost, Cond.instanceMethod yX4_cost, Cond.selects RX4 yX4_cost yX4_cost, Cond.code yX4_cost cX4_cost 4 (some .int), Cond.code yX0_seekAny cX0_seekAny 6 (some .int), Cond.code yX0_seekSome cX0_seekSome 6 (some .int), Cond.methodLink RX0 87 ⟨"PostingPlanner$Group", "neededPlace", "()I"⟩, Cond.sameMethod "PostingPlanner$Group" "PostingPlanner$Group" "neededPlace" "()I", Cond.selects RX2 ⟨"PostingPlanner$Group", "neededPlace", "()I"⟩ yX0_neededPlace, Cond.instanceMethod yX0_neededPlace, Cond.code yX0_neededPlace cX0_neededPlace 4 (some .int), Cond.fieldLink RX0 90 "PostingPlanner$Part" "place" "I", Cond.methodLink RX0 91 ⟨"PostingPlanner$Group", "placesUpTo", "(I)I"⟩, Cond.sameMethod "PostingPlanner$Group" "PostingPlanner$Group" "placesUpTo" "(I)I", Cond.selects RX2 ⟨"PostingPlanner$Group", "placesUpTo", "(I)I"⟩ yX0_placesUpTo, Cond.instanceMethod yX0_placesUpTo, Cond.code yX0_placesUpTo cX0_placesUpTo 5 (some .int), Cond.selects RX3 ⟨"PostingPlanner$Group", "placesUpTo", "(I)I"⟩ yX0_placesUpTo, Cond.selects RX3 ⟨"PostingPlanner$Group", "neededPlace", "()I"⟩ yX0_neededPlace, Cond.methodLink RL 138 yX11_leap, Cond.instanceMethod yX11_leap]
def wsL_law0_r33 : List Cond := [Cond.selects RX11 yX11_leap yX11_leap, Cond.code yX11_leap cX11_leap 2 (some .int), Cond.methodLink RX11 204 yX11_leaps, Cond.instanceMethod yX11_leaps, Cond.selects RX11 yX11_leaps yX11_leaps, Cond.code yX11_leaps cX11_leaps 4 (some .int), Cond.methodLink RX11 201 yX11_seeksPlan, Cond.instanceMethod yX11_seeksPlan, Cond.selects RX11 yX11_seeksPlan yX11_seeksPlan, Cond.code yX11_seeksPlan cX11_seeksPlan 7 (some .int), Cond.methodLink RX11 195 yX11_seeksClause, Cond.instanceMethod yX11_seeksClause, Cond.selects RX11 yX11_seeksClause yX11_seeksClause, Cond.code yX11_seeksClause cX11_seeksClause 9 none, Cond.methodLink RX11 187 yX11_seeksLiteral, Cond.instanceMethod yX11_seeksLiteral, Cond.selects RX11 yX11_seeksLiteral yX11_seeksLiteral, Cond.code yX11_seeksLiteral cX11_seeksLiteral 6 none, Cond.methodLink RX11 191 yX11_nthLiteral, Cond.instanceMethod yX11_nthLiteral, Cond.selects RX11 yX11_nthLiteral yX11_nthLiteral, Cond.code yX11_nthLiteral cX11_nthLiteral 7 (some .int), Cond.methodLink RX11 198 yX11_nthClause, Cond.instanceMethod yX11_nthClause]
def wsL_law0_r34 : List Cond := [Cond.selects RX11 yX11_nthClause yX11_nthClause, Cond.code yX11_nthClause cX11_nthClause 5 (some .int), Cond.methodLink RL 139 yL_next, Cond.static yL_next, Cond.codeWith yL_next cL_next 3 (some .int) [(0, 8, 11, 33)], Cond.methodLink RL 56 yX10_next, Cond.instanceMethod yX10_next, Cond.selects RX10 yX10_next yX10_next, Cond.code yX10_next cX10_next 1 (some .int), Cond.methodLink RL 142 yX11_next, Cond.instanceMethod yX11_next, Cond.selects RX11 yX11_next yX11_next, Cond.code yX11_next cX11_next 1 (some .int), Cond.methodLink RL 143 yL_readings, Cond.static yL_readings, Cond.codeWith yL_readings cL_readings 3 (some .int) [(0, 8, 11, 33)], Cond.methodLink RL 60 yX10_readings, Cond.instanceMethod yX10_readings, Cond.selects RX10 yX10_readings yX10_readings, Cond.code yX10_readings cX10_readings 1 (some .int), Cond.fieldLink RX10 162 "PostingPlanner$Run" "tally" "LPostingPlanner$Tally;", Cond.fieldLink RX10 166 "PostingPlanner$Tally" "sum" "I", Cond.methodLink RL 145 yX11_readings, Cond.instanceMethod yX11_readings]
def wsL_law0_r35 : List Cond := [Cond.selects RX11 yX11_readings yX11_readings, Cond.code yX11_readings cX11_readings 1 (some .int)]
def wsL_law0 : List Cond := (wsL_law0_r1 ++ (wsL_law0_r2 ++ (wsL_law0_r3 ++ (wsL_law0_r4 ++ (wsL_law0_r5 ++ (wsL_law0_r6 ++ (wsL_law0_r7 ++ (wsL_law0_r8 ++ (wsL_law0_r9 ++ (wsL_law0_r10 ++ (wsL_law0_r11 ++ (wsL_law0_r12 ++ (wsL_law0_r13 ++ (wsL_law0_r14 ++ (wsL_law0_r15 ++ (wsL_law0_r16 ++ (wsL_law0_r17 ++ (wsL_law0_r18 ++ (wsL_law0_r19 ++ (wsL_law0_r20 ++ (wsL_law0_r21 ++ (wsL_law0_r22 ++ (wsL_law0_r23 ++ (wsL_law0_r24 ++ (wsL_law0_r25 ++ (wsL_law0_r26 ++ (wsL_law0_r27 ++ (wsL_law0_r28 ++ (wsL_law0_r29 ++ (wsL_law0_r30 ++ (wsL_law0_r31 ++ (wsL_law0_r32 ++ (wsL_law0_r33 ++ (wsL_law0_r34 ++ wsL_law0_r35)))))))))))))))))))))))))))))))))) ++ wsX100 ++ wsX110 ++ wsX70 ++ wsX50 ++ wsX20 ++ wsX80 ++ wsX60 ++ wsX90 ++ wsX30 ++ wsX40 ++ ([] : List Cond)
def wsL_law : List Cond := wsL_law0 ++ (vx_atS RX10 50 "java/lang/IllegalArgumentException" ["java/lang/RuntimeException", "java/lang/Exception"]).filter goodWord ++ (vx_atS RX10 103 "java/lang/IndexOutOfBoundsException" ["java/lang/RuntimeException", "java/lang/Exception"]).filter goodWord ++ (vx_atS RX10 94 "java/lang/IllegalStateException" ["java/lang/RuntimeException", "java/lang/Exception"]).filter goodWord
set_option maxRecDepth 20000 in
theorem inX0 : ∀ w ∈ wsX00, w ∈ lw_tbl := by decide +kernel
theorem inX1 : ∀ w ∈ wsX10, w ∈ lw_tbl := by decide +kernel
theorem inlX2 : ∀ w ∈ wsX20, w ∈ wsL_law := fun _ h => List.mem_append_left _ (List.mem_append_left _ (List.mem_append_left _ (List.mem_append_left _ (List.mem_append_left _ (List.mem_append_left _ (List.mem_append_left _ (List.mem_append_left _ (List.mem_append_left _ (List.mem_append_right _ h)))))))))
theorem inlX3 : ∀ w ∈ wsX30, w ∈ wsL_law := fun _ h => List.mem_append_left _ (List.mem_append_left _ (List.mem_append_left _ (List.mem_append_left _ (List.mem_append_left _ (List.mem_append_right _ h)))))
theorem inlX4 : ∀ w ∈ wsX40, w ∈ wsL_law := fun _ h => List.mem_append_left _ (List.mem_append_left _ (List.mem_append_left _ (List.mem_append_left _ (List.mem_append_right _ h))))
theorem inlX5 : ∀ w ∈ wsX50, w ∈ wsL_law := fun _ h => List.mem_append_left _ (List.mem_append_left _ (List.mem_append_left _ (List.mem_append_left _ (List.mem_append_left _ (List.mem_append_left _ (List.mem_append_left _ (List.mem_append_left _ (List.mem_append_left _ (List.mem_append_left _ (List.mem_append_right _ h))))))))))
theorem inlX6 : ∀ w ∈ wsX60, w ∈ wsL_law := fun _ h => List.mem_append_left _ (List.mem_append_left _ (List.mem_append_left _ (List.mem_append_left _ (List.mem_append_left _ (List.mem_append_left _ (List.mem_append_left _ (List.mem_append_right _ h)))))))
theorem inlX7 : ∀ w ∈ wsX70, w ∈ wsL_law := fun _ h => List.mem_append_left _ (List.mem_append_left _ (List.mem_append_left _ (List.mem_append_left _ (List.mem_append_left _ (List.mem_append_left _ (List.mem_append_left _ (List.mem_append_left _ (List.mem_append_left _ (List.mem_append_left _ (List.mem_append_left _ (List.mem_append_right _ h)))))))))))
theorem inlX8 : ∀ w ∈ wsX80, w ∈ wsL_law := fun _ h => List.mem_append_left _ (List.mem_append_left _ (List.mem_append_left _ (List.mem_append_left _ (List.mem_append_left _ (List.mem_append_left _ (List.mem_append_left _ (List.mem_append_left _ (List.mem_append_right _ h))))))))
theorem inlX9 : ∀ w ∈ wsX90, w ∈ wsL_law := fun _ h => List.mem_append_left _ (List.mem_append_left _ (List.mem_append_left _ (List.mem_append_left _ (List.mem_append_left _ (List.mem_append_left _ (List.mem_append_right _ h))))))
theorem inlX10 : ∀ w ∈ wsX100, w ∈ wsL_law := fun _ h => List.mem_append_left _ (List.mem_append_left _ (List.mem_append_left _ (List.mem_append_left _ (List.mem_append_left _ (List.mem_append_left _ (List.mem_append_left _ (List.mem_append_left _ (List.mem_append_left _ (List.mem_append_left _ (List.mem_append_left _ (List.mem_append_left _ (List.mem_append_left _ (List.mem_append_right _ h)))))))))))))
theorem inlX11 : ∀ w ∈ wsX110, w ∈ wsL_law := fun _ h => List.mem_append_left _ (List.mem_append_left _ (List.mem_append_left _ (List.mem_append_left _ (List.mem_append_left _ (List.mem_append_left _ (List.mem_append_left _ (List.mem_append_left _ (List.mem_append_left _ (List.mem_append_left _ (List.mem_append_left _ (List.mem_append_left _ (List.mem_append_right _ h))))))))))))
theorem inJx145de : ∀ w ∈ wsJx145de0, w ∈ lw_tbl := by decide +kernel
theorem inJ13 : ∀ w ∈ wsJ130, w ∈ lw_tbl := by decide +kernel
theorem inJ9 : ∀ w ∈ wsJ90, w ∈ lw_tbl := by decide +kernel
theorem inJ0 : ∀ w ∈ wsJ00, w ∈ lw_tbl := by decide +kernel
theorem inJ7 : ∀ w ∈ wsJ70, w ∈ lw_tbl := by decide +kernel
abbrev vwCl : List vw_C := [(RX2, TX2, 9), (RX3, TX3, 9), (RX4, TX4, 6), (RX5, TX5, 4), (RX6, TX6, 4), (RX7, TX7, 1), (RX8, TX8, 1), (RX9, TX9, 5), (RX10, TX10, 4), (RX11, TX11, 35)]
/-! ===== END printed: names ===== -/
end
section
set_option maxRecDepth 20000 in
theorem ggX7_init_J7_fill_53178 : GoodIn wsX7_init wsJ7_fill_53178 := goodIn_r _ [9] (by decide +kernel) (by decide +kernel)
set_option maxRecDepth 20000 in
theorem gX7_init_J7_fill_53178 : GoodIn wsX7_init (va_wsS RX7 15 yJ7_fill_53178 wsJ7_fill_53178) := goodIn_app (goodIn_of _ (by decide +kernel)) ggX7_init_J7_fill_53178
set_option maxRecDepth 20000 in
theorem ggX7_truthsOf_X10_isLiteralTrue : GoodIn wsX7_truthsOf wsX10_isLiteralTrue := goodIn_r _ [4] (by decide +kernel) (by decide +kernel)
set_option maxRecDepth 20000 in
theorem gX7_truthsOf_X10_isLiteralTrue_n21 : GoodIn wsX7_truthsOf (wsX10_isLiteralTrue) := ggX7_truthsOf_X10_isLiteralTrue
set_option maxRecDepth 20000 in
theorem ggX9_isTrueOf_X10_isLiteralTrue : GoodIn wsX9_isTrueOf wsX10_isLiteralTrue := goodIn_r _ [8] (by decide +kernel) (by decide +kernel)
set_option maxRecDepth 20000 in
theorem gX9_isTrueOf_X10_isLiteralTrue_n29 : GoodIn wsX9_isTrueOf (wsX10_isLiteralTrue) := ggX9_isTrueOf_X10_isLiteralTrue
set_option maxRecDepth 20000 in
theorem ggX9_isTrueOf_X10_isEnough : GoodIn wsX9_isTrueOf wsX10_isEnough := goodIn_r _ [10] (by decide +kernel) (by decide +kernel)
set_option maxRecDepth 20000 in
theorem gX9_isTrueOf_X10_isEnough_n33 : GoodIn wsX9_isTrueOf (wsX10_isEnough) := ggX9_isTrueOf_X10_isEnough
set_option maxRecDepth 20000 in
theorem ggX5_init_X9_init : GoodIn wsX5_init wsX9_init := goodIn_r _ [11, 12, 2, 3, 13, 14, 19, 20, 21, 22, 23] (by decide +kernel) (by decide +kernel)
set_option maxRecDepth 20000 in
theorem gX5_init_X9_init : GoodIn wsX5_init (wsX9_init) := ggX5_init_X9_init
set_option maxRecDepth 20000 in
theorem ggX5_append_X9_restart : GoodIn wsX5_append wsX9_restart := goodIn_r _ [7, 8, 9, 10, 11, 16, 17, 18, 19, 20] (by decide +kernel) (by decide +kernel)
set_option maxRecDepth 20000 in
theorem gX5_append_X9_restart : GoodIn wsX5_append (wsV RX5 28 RX9 yX9_restart wsX9_restart) := goodIn_app (goodIn_of _ (by decide +kernel)) ggX5_append_X9_restart
set_option maxRecDepth 20000 in
theorem ggX5_isTrueOf_X5_toldAt : GoodIn wsX5_isTrueOf wsX5_toldAt := goodIn_r _ [8, 1, 9, 25, 26, 27, 28] (by decide +kernel) (by decide +kernel)
set_option maxRecDepth 20000 in
theorem gX5_isTrueOf_X5_toldAt : GoodIn wsX5_isTrueOf (wsV RX5 32 RX5 yX5_toldAt wsX5_toldAt) := goodIn_app (goodIn_of _ (by decide +kernel)) ggX5_isTrueOf_X5_toldAt
set_option maxRecDepth 20000 in
theorem ggX5_isTrueOf_X9_isTrueOf : GoodIn wsX5_isTrueOf wsX9_isTrueOf := goodIn_r _ [14, 15, 16, 17, 18, 19, 20, 21, 22, 23, 24, 29, 30, 31, 32, 33] (by decide +kernel) (by decide +kernel)
set_option maxRecDepth 20000 in
theorem gX5_isTrueOf_X9_isTrueOf : GoodIn wsX5_isTrueOf (wsV RX5 36 RX9 yX9_isTrueOf wsX9_isTrueOf) := goodIn_app (goodIn_of _ (by decide +kernel)) ggX5_isTrueOf_X9_isTrueOf
set_option maxRecDepth 20000 in
theorem ggX5_isTrueOf_X10_isEnough : GoodIn wsX5_isTrueOf wsX10_isEnough := goodIn_r _ [24] (by decide +kernel) (by decide +kernel)
set_option maxRecDepth 20000 in
theorem gX5_isTrueOf_X10_isEnough_n40 : GoodIn wsX5_isTrueOf (wsX10_isEnough) := ggX5_isTrueOf_X10_isEnough
set_option maxRecDepth 20000 in
theorem ggX4_init_X1_init : GoodIn wsX4_init wsX1_init := goodIn_r _ [4, 5, 6, 7] (by decide +kernel) (by decide +kernel)
set_option maxRecDepth 20000 in
theorem gX4_init_X1_init_n3 : GoodIn wsX4_init (wsX1_init) := ggX4_init_X1_init
set_option maxRecDepth 20000 in
theorem ggX4_make_J13_bitCount_95d88 : GoodIn wsX4_make wsJ13_bitCount_95d88 := goodIn_r _ [12, 13, 14, 15] (by decide +kernel) (by decide +kernel)
set_option maxRecDepth 20000 in
theorem gX4_make_J13_bitCount_95d88 : GoodIn wsX4_make (va_wsS RX4 26 yJ13_bitCount_95d88 wsJ13_bitCount_95d88) := goodIn_app (goodIn_of _ (by decide +kernel)) ggX4_make_J13_bitCount_95d88
set_option maxRecDepth 20000 in
theorem ggX4_seek_X10_firstOf : GoodIn wsX4_seek wsX10_firstOf := goodIn_r _ [8] (by decide +kernel) (by decide +kernel)
set_option maxRecDepth 20000 in
theorem gX4_seek_X10_firstOf_n38 : GoodIn wsX4_seek (wsX10_firstOf) := ggX4_seek_X10_firstOf
set_option maxRecDepth 20000 in
theorem ggX4_seek_X4_cost : GoodIn wsX4_seek wsX4_cost := goodIn_r _ [13, 14, 15, 16, 1, 2, 17, 18, 19, 20, 21, 22, 23, 24, 25, 26, 27, 28, 29, 30, 31, 32, 33, 34, 35, 36, 37, 38, 39, 40, 41, 42, 43, 44, 45, 46, 47] (by decide +kernel) (by decide +kernel)
set_option maxRecDepth 20000 in
theorem gX4_seek_X4_cost : GoodIn wsX4_seek (wsV RX4 47 RX4 yX4_cost wsX4_cost) := goodIn_app (goodIn_of _ (by decide +kernel)) ggX4_seek_X4_cost
set_option maxRecDepth 20000 in
theorem ggX4_cost_J13_bitCount_95d88 : GoodIn wsX4_cost wsJ13_bitCount_95d88 := goodIn_r _ [9, 10, 11, 12] (by decide +kernel) (by decide +kernel)
set_option maxRecDepth 20000 in
theorem gX4_cost_J13_bitCount_95d88 : GoodIn wsX4_cost (va_wsS RX4 26 yJ13_bitCount_95d88 wsJ13_bitCount_95d88) := goodIn_app (goodIn_of _ (by decide +kernel)) ggX4_cost_J13_bitCount_95d88
end
section
theorem dX0_init_0 : decode cX0_init 0 = .ok (.aload_n 0, 1) := by decide +kernel
theorem dX0_init_1 : decode cX0_init 1 = .ok (.invokespecial 3, 3) := by decide +kernel
theorem dX0_init_4 : decode cX0_init 4 = .ok (.aload_n 0, 1) := by decide +kernel
theorem dX0_init_5 : decode cX0_init 5 = .ok (.bipush 6, 2) := by decide +kernel
theorem dX0_init_7 : decode cX0_init 7 = .ok (.anewarray 4, 3) := by decide +kernel
theorem dX0_init_10 : decode cX0_init 10 = .ok (.putfield 9, 3) := by decide +kernel
theorem dX0_init_13 : decode cX0_init 13 = .ok (.return_, 1) := by decide +kernel
theorem dX0_restart_0 : decode cX0_restart 0 = .ok (.aload_n 0, 1) := by decide +kernel
theorem dX0_restart_1 : decode cX0_restart 1 = .ok (.iload_n 1, 1) := by decide +kernel
theorem dX0_restart_2 : decode cX0_restart 2 = .ok (.putfield 15, 3) := by decide +kernel
theorem dX0_restart_5 : decode cX0_restart 5 = .ok (.aload_n 0, 1) := by decide +kernel
theorem dX0_restart_6 : decode cX0_restart 6 = .ok (.iload_n 2, 1) := by decide +kernel
theorem dX0_restart_7 : decode cX0_restart 7 = .ok (.putfield 19, 3) := by decide +kernel
theorem dX0_restart_10 : decode cX0_restart 10 = .ok (.aload_n 0, 1) := by decide +kernel
theorem dX0_restart_11 : decode cX0_restart 11 = .ok (.iconst 0, 1) := by decide +kernel
theorem dX0_restart_12 : decode cX0_restart 12 = .ok (.putfield 22, 3) := by decide +kernel
theorem dX0_restart_15 : decode cX0_restart 15 = .ok (.aload_n 0, 1) := by decide +kernel
theorem dX0_restart_16 : decode cX0_restart 16 = .ok (.lload_n 3, 1) := by decide +kernel
theorem dX0_restart_17 : decode cX0_restart 17 = .ok (.putfield 25, 3) := by decide +kernel
theorem dX0_restart_20 : decode cX0_restart 20 = .ok (.aload_n 0, 1) := by decide +kernel
theorem dX0_restart_21 : decode cX0_restart 21 = .ok (.iconst (-1), 1) := by decide +kernel
theorem dX0_restart_22 : decode cX0_restart 22 = .ok (.putfield 29, 3) := by decide +kernel
theorem dX0_restart_25 : decode cX0_restart 25 = .ok (.return_, 1) := by decide +kernel
theorem dX0_partAt_0 : decode cX0_partAt 0 = .ok (.iload_n 1, 1) := by decide +kernel
theorem dX0_partAt_1 : decode cX0_partAt 1 = .ok (.ifCond .lt 29, 3) := by decide +kernel
theorem dX0_partAt_4 : decode cX0_partAt 4 = .ok (.iload_n 1, 1) := by decide +kernel
theorem dX0_partAt_5 : decode cX0_partAt 5 = .ok (.aload_n 0, 1) := by decide +kernel
theorem dX0_partAt_6 : decode cX0_partAt 6 = .ok (.getfield 22, 3) := by decide +kernel
theorem dX0_partAt_9 : decode cX0_partAt 9 = .ok (.if_icmp .ge 21, 3) := by decide +kernel
theorem dX0_partAt_12 : decode cX0_partAt 12 = .ok (.iload_n 1, 1) := by decide +kernel
theorem dX0_partAt_13 : decode cX0_partAt 13 = .ok (.aload_n 0, 1) := by decide +kernel
theorem dX0_partAt_14 : decode cX0_partAt 14 = .ok (.getfield 9, 3) := by decide +kernel
theorem dX0_partAt_17 : decode cX0_partAt 17 = .ok (.arraylength, 1) := by decide +kernel
theorem dX0_partAt_18 : decode cX0_partAt 18 = .ok (.if_icmp .ge 12, 3) := by decide +kernel
theorem dX0_partAt_21 : decode cX0_partAt 21 = .ok (.aload_n 0, 1) := by decide +kernel
theorem dX0_partAt_22 : decode cX0_partAt 22 = .ok (.getfield 9, 3) := by decide +kernel
theorem dX0_partAt_25 : decode cX0_partAt 25 = .ok (.iload_n 1, 1) := by decide +kernel
theorem dX0_partAt_26 : decode cX0_partAt 26 = .ok (.aaload, 1) := by decide +kernel
theorem dX0_partAt_27 : decode cX0_partAt 27 = .ok (.goto 4, 3) := by decide +kernel
theorem dX0_partAt_30 : decode cX0_partAt 30 = .ok (.aconst_null, 1) := by decide +kernel
theorem dX0_partAt_31 : decode cX0_partAt 31 = .ok (.areturn, 1) := by decide +kernel
theorem dX0_hasRank_0 : decode cX0_hasRank 0 = .ok (.iconst 0, 1) := by decide +kernel
theorem dX0_hasRank_1 : decode cX0_hasRank 1 = .ok (.istore_n 2, 1) := by decide +kernel
theorem dX0_hasRank_2 : decode cX0_hasRank 2 = .ok (.iload_n 2, 1) := by decide +kernel
theorem dX0_hasRank_3 : decode cX0_hasRank 3 = .ok (.aload_n 0, 1) := by decide +kernel
theorem dX0_hasRank_4 : decode cX0_hasRank 4 = .ok (.getfield 22, 3) := by decide +kernel
theorem dX0_hasRank_7 : decode cX0_hasRank 7 = .ok (.if_icmp .ge 29, 3) := by decide +kernel
theorem dX0_hasRank_10 : decode cX0_hasRank 10 = .ok (.aload_n 0, 1) := by decide +kernel
theorem dX0_hasRank_11 : decode cX0_hasRank 11 = .ok (.iload_n 2, 1) := by decide +kernel
theorem dX0_hasRank_12 : decode cX0_hasRank 12 = .ok (.invokevirtual 32, 3) := by decide +kernel
theorem dX0_hasRank_15 : decode cX0_hasRank 15 = .ok (.astore_n 3, 1) := by decide +kernel
theorem dX0_hasRank_16 : decode cX0_hasRank 16 = .ok (.aload_n 3, 1) := by decide +kernel
theorem dX0_hasRank_17 : decode cX0_hasRank 17 = .ok (.ifnull 13, 3) := by decide +kernel
theorem dX0_hasRank_20 : decode cX0_hasRank 20 = .ok (.aload_n 3, 1) := by decide +kernel
theorem dX0_hasRank_21 : decode cX0_hasRank 21 = .ok (.getfield 36, 3) := by decide +kernel
theorem dX0_hasRank_24 : decode cX0_hasRank 24 = .ok (.iload_n 1, 1) := by decide +kernel
theorem dX0_hasRank_25 : decode cX0_hasRank 25 = .ok (.if_icmp .ne 5, 3) := by decide +kernel
theorem dX0_hasRank_28 : decode cX0_hasRank 28 = .ok (.iconst 1, 1) := by decide +kernel
theorem dX0_hasRank_29 : decode cX0_hasRank 29 = .ok (.ireturn, 1) := by decide +kernel
theorem dX0_hasRank_30 : decode cX0_hasRank 30 = .ok (.iinc 2 1, 3) := by decide +kernel
theorem dX0_hasRank_33 : decode cX0_hasRank 33 = .ok (.goto (-31), 3) := by decide +kernel
theorem dX0_hasRank_36 : decode cX0_hasRank 36 = .ok (.iconst 0, 1) := by decide +kernel
theorem dX0_hasRank_37 : decode cX0_hasRank 37 = .ok (.ireturn, 1) := by decide +kernel
theorem dX0_keep_0 : decode cX0_keep 0 = .ok (.aload_n 0, 1) := by decide +kernel
theorem dX0_keep_1 : decode cX0_keep 1 = .ok (.getfield 22, 3) := by decide +kernel
theorem dX0_keep_4 : decode cX0_keep 4 = .ok (.ifCond .lt 35, 3) := by decide +kernel
theorem dX0_keep_7 : decode cX0_keep 7 = .ok (.aload_n 0, 1) := by decide +kernel
theorem dX0_keep_8 : decode cX0_keep 8 = .ok (.getfield 22, 3) := by decide +kernel
theorem dX0_keep_11 : decode cX0_keep 11 = .ok (.aload_n 0, 1) := by decide +kernel
theorem dX0_keep_12 : decode cX0_keep 12 = .ok (.getfield 9, 3) := by decide +kernel
theorem dX0_keep_15 : decode cX0_keep 15 = .ok (.arraylength, 1) := by decide +kernel
theorem dX0_keep_16 : decode cX0_keep 16 = .ok (.if_icmp .ge 23, 3) := by decide +kernel
theorem dX0_keep_19 : decode cX0_keep 19 = .ok (.aload_n 0, 1) := by decide +kernel
theorem dX0_keep_20 : decode cX0_keep 20 = .ok (.getfield 9, 3) := by decide +kernel
theorem dX0_keep_23 : decode cX0_keep 23 = .ok (.aload_n 0, 1) := by decide +kernel
theorem dX0_keep_24 : decode cX0_keep 24 = .ok (.getfield 22, 3) := by decide +kernel
theorem dX0_keep_27 : decode cX0_keep 27 = .ok (.aload_n 1, 1) := by decide +kernel
theorem dX0_keep_28 : decode cX0_keep 28 = .ok (.aastore, 1) := by decide +kernel
theorem dX0_keep_29 : decode cX0_keep 29 = .ok (.aload_n 0, 1) := by decide +kernel
theorem dX0_keep_30 : decode cX0_keep 30 = .ok (.dup, 1) := by decide +kernel
theorem dX0_keep_31 : decode cX0_keep 31 = .ok (.getfield 22, 3) := by decide +kernel
theorem dX0_keep_34 : decode cX0_keep 34 = .ok (.iconst 1, 1) := by decide +kernel
theorem dX0_keep_35 : decode cX0_keep 35 = .ok (.iadd, 1) := by decide +kernel
theorem dX0_keep_36 : decode cX0_keep 36 = .ok (.putfield 22, 3) := by decide +kernel
theorem dX0_keep_39 : decode cX0_keep 39 = .ok (.return_, 1) := by decide +kernel
theorem dX0_isFixed_0 : decode cX0_isFixed 0 = .ok (.aload_n 0, 1) := by decide +kernel
theorem dX0_isFixed_1 : decode cX0_isFixed 1 = .ok (.getfield 15, 3) := by decide +kernel
theorem dX0_isFixed_4 : decode cX0_isFixed 4 = .ok (.iconst 3, 1) := by decide +kernel
theorem dX0_isFixed_5 : decode cX0_isFixed 5 = .ok (.if_icmp .eq 11, 3) := by decide +kernel
theorem dX0_isFixed_8 : decode cX0_isFixed 8 = .ok (.aload_n 0, 1) := by decide +kernel
theorem dX0_isFixed_9 : decode cX0_isFixed 9 = .ok (.getfield 15, 3) := by decide +kernel
theorem dX0_isFixed_12 : decode cX0_isFixed 12 = .ok (.iconst 4, 1) := by decide +kernel
theorem dX0_isFixed_13 : decode cX0_isFixed 13 = .ok (.if_icmp .ne 7, 3) := by decide +kernel
theorem dX0_isFixed_16 : decode cX0_isFixed 16 = .ok (.iconst 1, 1) := by decide +kernel
theorem dX0_isFixed_17 : decode cX0_isFixed 17 = .ok (.goto 4, 3) := by decide +kernel
theorem dX0_isFixed_20 : decode cX0_isFixed 20 = .ok (.iconst 0, 1) := by decide +kernel
theorem dX0_isFixed_21 : decode cX0_isFixed 21 = .ok (.ireturn, 1) := by decide +kernel
theorem dX0_fix_0 : decode cX0_fix 0 = .ok (.aload_n 0, 1) := by decide +kernel
theorem dX0_fix_1 : decode cX0_fix 1 = .ok (.iload_n 1, 1) := by decide +kernel
theorem dX0_fix_2 : decode cX0_fix 2 = .ok (.putfield 15, 3) := by decide +kernel
theorem dX0_fix_5 : decode cX0_fix 5 = .ok (.aload_n 0, 1) := by decide +kernel
theorem dX0_fix_6 : decode cX0_fix 6 = .ok (.iconst 0, 1) := by decide +kernel
theorem dX0_fix_7 : decode cX0_fix 7 = .ok (.putfield 22, 3) := by decide +kernel
theorem dX0_fix_10 : decode cX0_fix 10 = .ok (.return_, 1) := by decide +kernel
theorem dX0_settleSome_0 : decode cX0_settleSome 0 = .ok (.aload_n 0, 1) := by decide +kernel
theorem dX0_settleSome_1 : decode cX0_settleSome 1 = .ok (.getfield 15, 3) := by decide +kernel
theorem dX0_settleSome_4 : decode cX0_settleSome 4 = .ok (.iconst 2, 1) := by decide +kernel
theorem dX0_settleSome_5 : decode cX0_settleSome 5 = .ok (.if_icmp .eq 4, 3) := by decide +kernel
theorem dX0_settleSome_8 : decode cX0_settleSome 8 = .ok (.return_, 1) := by decide +kernel
theorem dX0_settleSome_9 : decode cX0_settleSome 9 = .ok (.aload_n 0, 1) := by decide +kernel
theorem dX0_settleSome_10 : decode cX0_settleSome 10 = .ok (.getfield 19, 3) := by decide +kernel
theorem dX0_settleSome_13 : decode cX0_settleSome 13 = .ok (.ifCond .gt 11, 3) := by decide +kernel
theorem dX0_settleSome_16 : decode cX0_settleSome 16 = .ok (.aload_n 0, 1) := by decide +kernel
theorem dX0_settleSome_17 : decode cX0_settleSome 17 = .ok (.iconst 3, 1) := by decide +kernel
theorem dX0_settleSome_18 : decode cX0_settleSome 18 = .ok (.invokevirtual 39, 3) := by decide +kernel
theorem dX0_settleSome_21 : decode cX0_settleSome 21 = .ok (.goto 48, 3) := by decide +kernel
theorem dX0_settleSome_24 : decode cX0_settleSome 24 = .ok (.aload_n 0, 1) := by decide +kernel
theorem dX0_settleSome_25 : decode cX0_settleSome 25 = .ok (.getfield 19, 3) := by decide +kernel
theorem dX0_settleSome_28 : decode cX0_settleSome 28 = .ok (.iload_n 1, 1) := by decide +kernel
theorem dX0_settleSome_29 : decode cX0_settleSome 29 = .ok (.if_icmp .le 11, 3) := by decide +kernel
theorem dX0_settleSome_32 : decode cX0_settleSome 32 = .ok (.aload_n 0, 1) := by decide +kernel
theorem dX0_settleSome_33 : decode cX0_settleSome 33 = .ok (.iconst 4, 1) := by decide +kernel
theorem dX0_settleSome_34 : decode cX0_settleSome 34 = .ok (.invokevirtual 39, 3) := by decide +kernel
theorem dX0_settleSome_37 : decode cX0_settleSome 37 = .ok (.goto 32, 3) := by decide +kernel
theorem dX0_settleSome_40 : decode cX0_settleSome 40 = .ok (.aload_n 0, 1) := by decide +kernel
theorem dX0_settleSome_41 : decode cX0_settleSome 41 = .ok (.getfield 19, 3) := by decide +kernel
theorem dX0_settleSome_44 : decode cX0_settleSome 44 = .ok (.iconst 1, 1) := by decide +kernel
theorem dX0_settleSome_45 : decode cX0_settleSome 45 = .ok (.if_icmp .ne 11, 3) := by decide +kernel
theorem dX0_settleSome_48 : decode cX0_settleSome 48 = .ok (.aload_n 0, 1) := by decide +kernel
theorem dX0_settleSome_49 : decode cX0_settleSome 49 = .ok (.iconst 1, 1) := by decide +kernel
theorem dX0_settleSome_50 : decode cX0_settleSome 50 = .ok (.putfield 15, 3) := by decide +kernel
theorem dX0_settleSome_53 : decode cX0_settleSome 53 = .ok (.goto 16, 3) := by decide +kernel
theorem dX0_settleSome_56 : decode cX0_settleSome 56 = .ok (.aload_n 0, 1) := by decide +kernel
theorem dX0_settleSome_57 : decode cX0_settleSome 57 = .ok (.getfield 19, 3) := by decide +kernel
theorem dX0_settleSome_60 : decode cX0_settleSome 60 = .ok (.iload_n 1, 1) := by decide +kernel
theorem dX0_settleSome_61 : decode cX0_settleSome 61 = .ok (.if_icmp .ne 8, 3) := by decide +kernel
theorem dX0_settleSome_64 : decode cX0_settleSome 64 = .ok (.aload_n 0, 1) := by decide +kernel
theorem dX0_settleSome_65 : decode cX0_settleSome 65 = .ok (.iconst 0, 1) := by decide +kernel
theorem dX0_settleSome_66 : decode cX0_settleSome 66 = .ok (.putfield 15, 3) := by decide +kernel
theorem dX0_settleSome_69 : decode cX0_settleSome 69 = .ok (.return_, 1) := by decide +kernel
theorem dX0_settleEmpty_0 : decode cX0_settleEmpty 0 = .ok (.aload_n 0, 1) := by decide +kernel
theorem dX0_settleEmpty_1 : decode cX0_settleEmpty 1 = .ok (.getfield 22, 3) := by decide +kernel
theorem dX0_settleEmpty_4 : decode cX0_settleEmpty 4 = .ok (.ifCond .ne 18, 3) := by decide +kernel
theorem dX0_settleEmpty_7 : decode cX0_settleEmpty 7 = .ok (.aload_n 0, 1) := by decide +kernel
theorem dX0_settleEmpty_8 : decode cX0_settleEmpty 8 = .ok (.getfield 15, 3) := by decide +kernel
theorem dX0_settleEmpty_11 : decode cX0_settleEmpty 11 = .ok (.ifCond .ne 11, 3) := by decide +kernel
theorem dX0_settleEmpty_14 : decode cX0_settleEmpty 14 = .ok (.aload_n 0, 1) := by decide +kernel
theorem dX0_settleEmpty_15 : decode cX0_settleEmpty 15 = .ok (.iconst 3, 1) := by decide +kernel
theorem dX0_settleEmpty_16 : decode cX0_settleEmpty 16 = .ok (.invokevirtual 39, 3) := by decide +kernel
theorem dX0_settleEmpty_19 : decode cX0_settleEmpty 19 = .ok (.goto 23, 3) := by decide +kernel
theorem dX0_settleEmpty_22 : decode cX0_settleEmpty 22 = .ok (.aload_n 0, 1) := by decide +kernel
theorem dX0_settleEmpty_23 : decode cX0_settleEmpty 23 = .ok (.getfield 22, 3) := by decide +kernel
theorem dX0_settleEmpty_26 : decode cX0_settleEmpty 26 = .ok (.ifCond .ne 16, 3) := by decide +kernel
theorem dX0_settleEmpty_29 : decode cX0_settleEmpty 29 = .ok (.aload_n 0, 1) := by decide +kernel
theorem dX0_settleEmpty_30 : decode cX0_settleEmpty 30 = .ok (.getfield 15, 3) := by decide +kernel
theorem dX0_settleEmpty_33 : decode cX0_settleEmpty 33 = .ok (.iconst 1, 1) := by decide +kernel
theorem dX0_settleEmpty_34 : decode cX0_settleEmpty 34 = .ok (.if_icmp .ne 8, 3) := by decide +kernel
theorem dX0_settleEmpty_37 : decode cX0_settleEmpty 37 = .ok (.aload_n 0, 1) := by decide +kernel
theorem dX0_settleEmpty_38 : decode cX0_settleEmpty 38 = .ok (.iconst 4, 1) := by decide +kernel
theorem dX0_settleEmpty_39 : decode cX0_settleEmpty 39 = .ok (.invokevirtual 39, 3) := by decide +kernel
theorem dX0_settleEmpty_42 : decode cX0_settleEmpty 42 = .ok (.return_, 1) := by decide +kernel
theorem dX0_appraise_0 : decode cX0_appraise 0 = .ok (.aload_n 0, 1) := by decide +kernel
theorem dX0_appraise_1 : decode cX0_appraise 1 = .ok (.getfield 25, 3) := by decide +kernel
theorem dX0_appraise_4 : decode cX0_appraise 4 = .ok (.invokestatic 43, 3) := by decide +kernel
theorem dX0_appraise_7 : decode cX0_appraise 7 = .ok (.istore_n 1, 1) := by decide +kernel
theorem dX0_appraise_8 : decode cX0_appraise 8 = .ok (.aload_n 0, 1) := by decide +kernel
theorem dX0_appraise_9 : decode cX0_appraise 9 = .ok (.getfield 15, 3) := by decide +kernel
theorem dX0_appraise_12 : decode cX0_appraise 12 = .ok (.tableswitch 99 0 3 #[32, 44, 59, 91], 32) := by decide +kernel
theorem dX0_appraise_44 : decode cX0_appraise 44 = .ok (.aload_n 0, 1) := by decide +kernel
theorem dX0_appraise_45 : decode cX0_appraise 45 = .ok (.aload_n 0, 1) := by decide +kernel
theorem dX0_appraise_46 : decode cX0_appraise 46 = .ok (.iload_n 1, 1) := by decide +kernel
theorem dX0_appraise_47 : decode cX0_appraise 47 = .ok (.invokevirtual 49, 3) := by decide +kernel
theorem dX0_appraise_50 : decode cX0_appraise 50 = .ok (.putfield 53, 3) := by decide +kernel
theorem dX0_appraise_53 : decode cX0_appraise 53 = .ok (.goto 63, 3) := by decide +kernel
theorem dX0_appraise_56 : decode cX0_appraise 56 = .ok (.aload_n 0, 1) := by decide +kernel
theorem dX0_appraise_57 : decode cX0_appraise 57 = .ok (.aload_n 0, 1) := by decide +kernel
theorem dX0_appraise_58 : decode cX0_appraise 58 = .ok (.invokevirtual 56, 3) := by decide +kernel
theorem dX0_appraise_61 : decode cX0_appraise 61 = .ok (.iload_n 1, 1) := by decide +kernel
theorem dX0_appraise_62 : decode cX0_appraise 62 = .ok (.invokestatic 60, 3) := by decide +kernel
theorem dX0_appraise_65 : decode cX0_appraise 65 = .ok (.putfield 53, 3) := by decide +kernel
theorem dX0_appraise_68 : decode cX0_appraise 68 = .ok (.goto 48, 3) := by decide +kernel
theorem dX0_appraise_71 : decode cX0_appraise 71 = .ok (.aload_n 0, 1) := by decide +kernel
theorem dX0_appraise_72 : decode cX0_appraise 72 = .ok (.aload_n 0, 1) := by decide +kernel
theorem dX0_appraise_73 : decode cX0_appraise 73 = .ok (.getfield 19, 3) := by decide +kernel
theorem dX0_appraise_76 : decode cX0_appraise 76 = .ok (.iconst 1, 1) := by decide +kernel
theorem dX0_appraise_77 : decode cX0_appraise 77 = .ok (.if_icmp .ge 7, 3) := by decide +kernel
theorem dX0_appraise_80 : decode cX0_appraise 80 = .ok (.iload_n 1, 1) := by decide +kernel
theorem dX0_appraise_81 : decode cX0_appraise 81 = .ok (.goto 16, 3) := by decide +kernel
theorem dX0_appraise_84 : decode cX0_appraise 84 = .ok (.aload_n 0, 1) := by decide +kernel
theorem dX0_appraise_85 : decode cX0_appraise 85 = .ok (.invokevirtual 56, 3) := by decide +kernel
theorem dX0_appraise_88 : decode cX0_appraise 88 = .ok (.aload_n 0, 1) := by decide +kernel
theorem dX0_appraise_89 : decode cX0_appraise 89 = .ok (.getfield 19, 3) := by decide +kernel
theorem dX0_appraise_92 : decode cX0_appraise 92 = .ok (.idiv, 1) := by decide +kernel
theorem dX0_appraise_93 : decode cX0_appraise 93 = .ok (.iload_n 1, 1) := by decide +kernel
theorem dX0_appraise_94 : decode cX0_appraise 94 = .ok (.invokestatic 60, 3) := by decide +kernel
theorem dX0_appraise_97 : decode cX0_appraise 97 = .ok (.putfield 53, 3) := by decide +kernel
theorem dX0_appraise_100 : decode cX0_appraise 100 = .ok (.goto 16, 3) := by decide +kernel
theorem dX0_appraise_103 : decode cX0_appraise 103 = .ok (.aload_n 0, 1) := by decide +kernel
theorem dX0_appraise_104 : decode cX0_appraise 104 = .ok (.iload_n 1, 1) := by decide +kernel
theorem dX0_appraise_105 : decode cX0_appraise 105 = .ok (.putfield 53, 3) := by decide +kernel
theorem dX0_appraise_108 : decode cX0_appraise 108 = .ok (.goto 8, 3) := by decide +kernel
theorem dX0_appraise_111 : decode cX0_appraise 111 = .ok (.aload_n 0, 1) := by decide +kernel
theorem dX0_appraise_112 : decode cX0_appraise 112 = .ok (.iconst 0, 1) := by decide +kernel
theorem dX0_appraise_113 : decode cX0_appraise 113 = .ok (.putfield 53, 3) := by decide +kernel
theorem dX0_appraise_116 : decode cX0_appraise 116 = .ok (.return_, 1) := by decide +kernel
theorem dX0_leastEstimate_0 : decode cX0_leastEstimate 0 = .ok (.iload_n 1, 1) := by decide +kernel
theorem dX0_leastEstimate_1 : decode cX0_leastEstimate 1 = .ok (.istore_n 2, 1) := by decide +kernel
theorem dX0_leastEstimate_2 : decode cX0_leastEstimate 2 = .ok (.iconst 0, 1) := by decide +kernel
theorem dX0_leastEstimate_3 : decode cX0_leastEstimate 3 = .ok (.istore_n 3, 1) := by decide +kernel
theorem dX0_leastEstimate_4 : decode cX0_leastEstimate 4 = .ok (.iload_n 3, 1) := by decide +kernel
theorem dX0_leastEstimate_5 : decode cX0_leastEstimate 5 = .ok (.aload_n 0, 1) := by decide +kernel
theorem dX0_leastEstimate_6 : decode cX0_leastEstimate 6 = .ok (.getfield 22, 3) := by decide +kernel
theorem dX0_leastEstimate_9 : decode cX0_leastEstimate 9 = .ok (.if_icmp .ge 31, 3) := by decide +kernel
theorem dX0_leastEstimate_12 : decode cX0_leastEstimate 12 = .ok (.aload_n 0, 1) := by decide +kernel
theorem dX0_leastEstimate_13 : decode cX0_leastEstimate 13 = .ok (.iload_n 3, 1) := by decide +kernel
theorem dX0_leastEstimate_14 : decode cX0_leastEstimate 14 = .ok (.invokevirtual 32, 3) := by decide +kernel
theorem dX0_leastEstimate_17 : decode cX0_leastEstimate 17 = .ok (.astore 4, 2) := by decide +kernel
theorem dX0_leastEstimate_19 : decode cX0_leastEstimate 19 = .ok (.aload 4, 2) := by decide +kernel
theorem dX0_leastEstimate_21 : decode cX0_leastEstimate 21 = .ok (.ifnull 13, 3) := by decide +kernel
theorem dX0_leastEstimate_24 : decode cX0_leastEstimate 24 = .ok (.iload_n 2, 1) := by decide +kernel
theorem dX0_leastEstimate_25 : decode cX0_leastEstimate 25 = .ok (.aload 4, 2) := by decide +kernel
theorem dX0_leastEstimate_27 : decode cX0_leastEstimate 27 = .ok (.getfield 66, 3) := by decide +kernel
theorem dX0_leastEstimate_30 : decode cX0_leastEstimate 30 = .ok (.invokestatic 60, 3) := by decide +kernel
theorem dX0_leastEstimate_33 : decode cX0_leastEstimate 33 = .ok (.istore_n 2, 1) := by decide +kernel
theorem dX0_leastEstimate_34 : decode cX0_leastEstimate 34 = .ok (.iinc 3 1, 3) := by decide +kernel
theorem dX0_leastEstimate_37 : decode cX0_leastEstimate 37 = .ok (.goto (-33), 3) := by decide +kernel
theorem dX0_leastEstimate_40 : decode cX0_leastEstimate 40 = .ok (.iload_n 2, 1) := by decide +kernel
theorem dX0_leastEstimate_41 : decode cX0_leastEstimate 41 = .ok (.ireturn, 1) := by decide +kernel
theorem dX0_sumOfEstimates_0 : decode cX0_sumOfEstimates 0 = .ok (.iconst 0, 1) := by decide +kernel
theorem dX0_sumOfEstimates_1 : decode cX0_sumOfEstimates 1 = .ok (.istore_n 1, 1) := by decide +kernel
theorem dX0_sumOfEstimates_2 : decode cX0_sumOfEstimates 2 = .ok (.iconst 0, 1) := by decide +kernel
theorem dX0_sumOfEstimates_3 : decode cX0_sumOfEstimates 3 = .ok (.istore_n 2, 1) := by decide +kernel
theorem dX0_sumOfEstimates_4 : decode cX0_sumOfEstimates 4 = .ok (.iload_n 2, 1) := by decide +kernel
theorem dX0_sumOfEstimates_5 : decode cX0_sumOfEstimates 5 = .ok (.aload_n 0, 1) := by decide +kernel
theorem dX0_sumOfEstimates_6 : decode cX0_sumOfEstimates 6 = .ok (.getfield 22, 3) := by decide +kernel
theorem dX0_sumOfEstimates_9 : decode cX0_sumOfEstimates 9 = .ok (.if_icmp .ge 26, 3) := by decide +kernel
theorem dX0_sumOfEstimates_12 : decode cX0_sumOfEstimates 12 = .ok (.aload_n 0, 1) := by decide +kernel
theorem dX0_sumOfEstimates_13 : decode cX0_sumOfEstimates 13 = .ok (.iload_n 2, 1) := by decide +kernel
theorem dX0_sumOfEstimates_14 : decode cX0_sumOfEstimates 14 = .ok (.invokevirtual 32, 3) := by decide +kernel
theorem dX0_sumOfEstimates_17 : decode cX0_sumOfEstimates 17 = .ok (.astore_n 3, 1) := by decide +kernel
theorem dX0_sumOfEstimates_18 : decode cX0_sumOfEstimates 18 = .ok (.aload_n 3, 1) := by decide +kernel
theorem dX0_sumOfEstimates_19 : decode cX0_sumOfEstimates 19 = .ok (.ifnull 10, 3) := by decide +kernel
theorem dX0_sumOfEstimates_22 : decode cX0_sumOfEstimates 22 = .ok (.iload_n 1, 1) := by decide +kernel
theorem dX0_sumOfEstimates_23 : decode cX0_sumOfEstimates 23 = .ok (.aload_n 3, 1) := by decide +kernel
theorem dX0_sumOfEstimates_24 : decode cX0_sumOfEstimates 24 = .ok (.getfield 66, 3) := by decide +kernel
theorem dX0_sumOfEstimates_27 : decode cX0_sumOfEstimates 27 = .ok (.iadd, 1) := by decide +kernel
theorem dX0_sumOfEstimates_28 : decode cX0_sumOfEstimates 28 = .ok (.istore_n 1, 1) := by decide +kernel
theorem dX0_sumOfEstimates_29 : decode cX0_sumOfEstimates 29 = .ok (.iinc 2 1, 3) := by decide +kernel
theorem dX0_sumOfEstimates_32 : decode cX0_sumOfEstimates 32 = .ok (.goto (-28), 3) := by decide +kernel
theorem dX0_sumOfEstimates_35 : decode cX0_sumOfEstimates 35 = .ok (.iload_n 1, 1) := by decide +kernel
theorem dX0_sumOfEstimates_36 : decode cX0_sumOfEstimates 36 = .ok (.ireturn, 1) := by decide +kernel
theorem dX0_order_0 : decode cX0_order 0 = .ok (.aload_n 0, 1) := by decide +kernel
theorem dX0_order_1 : decode cX0_order 1 = .ok (.getfield 15, 3) := by decide +kernel
theorem dX0_order_4 : decode cX0_order 4 = .ok (.ifCond .eq 4, 3) := by decide +kernel
theorem dX0_order_7 : decode cX0_order 7 = .ok (.return_, 1) := by decide +kernel
theorem dX0_order_8 : decode cX0_order 8 = .ok (.iconst 1, 1) := by decide +kernel
theorem dX0_order_9 : decode cX0_order 9 = .ok (.istore_n 1, 1) := by decide +kernel
theorem dX0_order_10 : decode cX0_order 10 = .ok (.iload_n 1, 1) := by decide +kernel
theorem dX0_order_11 : decode cX0_order 11 = .ok (.aload_n 0, 1) := by decide +kernel
theorem dX0_order_12 : decode cX0_order 12 = .ok (.getfield 22, 3) := by decide +kernel
theorem dX0_order_15 : decode cX0_order 15 = .ok (.if_icmp .ge 81, 3) := by decide +kernel
theorem dX0_order_18 : decode cX0_order 18 = .ok (.iload_n 1, 1) := by decide +kernel
theorem dX0_order_19 : decode cX0_order 19 = .ok (.aload_n 0, 1) := by decide +kernel
theorem dX0_order_20 : decode cX0_order 20 = .ok (.getfield 9, 3) := by decide +kernel
theorem dX0_order_23 : decode cX0_order 23 = .ok (.arraylength, 1) := by decide +kernel
theorem dX0_order_24 : decode cX0_order 24 = .ok (.if_icmp .ge 72, 3) := by decide +kernel
theorem dX0_order_27 : decode cX0_order 27 = .ok (.iload_n 1, 1) := by decide +kernel
theorem dX0_order_28 : decode cX0_order 28 = .ok (.istore_n 2, 1) := by decide +kernel
theorem dX0_order_29 : decode cX0_order 29 = .ok (.iload_n 2, 1) := by decide +kernel
theorem dX0_order_30 : decode cX0_order 30 = .ok (.ifCond .le 60, 3) := by decide +kernel
theorem dX0_order_33 : decode cX0_order 33 = .ok (.aload_n 0, 1) := by decide +kernel
theorem dX0_order_34 : decode cX0_order 34 = .ok (.aload_n 0, 1) := by decide +kernel
theorem dX0_order_35 : decode cX0_order 35 = .ok (.getfield 9, 3) := by decide +kernel
theorem dX0_order_38 : decode cX0_order 38 = .ok (.iload_n 2, 1) := by decide +kernel
theorem dX0_order_39 : decode cX0_order 39 = .ok (.aaload, 1) := by decide +kernel
theorem dX0_order_40 : decode cX0_order 40 = .ok (.aload_n 0, 1) := by decide +kernel
theorem dX0_order_41 : decode cX0_order 41 = .ok (.getfield 9, 3) := by decide +kernel
theorem dX0_order_44 : decode cX0_order 44 = .ok (.iload_n 2, 1) := by decide +kernel
theorem dX0_order_45 : decode cX0_order 45 = .ok (.iconst 1, 1) := by decide +kernel
theorem dX0_order_46 : decode cX0_order 46 = .ok (.isub, 1) := by decide +kernel
theorem dX0_order_47 : decode cX0_order 47 = .ok (.aaload, 1) := by decide +kernel
theorem dX0_order_48 : decode cX0_order 48 = .ok (.invokevirtual 67, 3) := by decide +kernel
theorem dX0_order_51 : decode cX0_order 51 = .ok (.ifCond .eq 39, 3) := by decide +kernel
theorem dX0_order_54 : decode cX0_order 54 = .ok (.aload_n 0, 1) := by decide +kernel
theorem dX0_order_55 : decode cX0_order 55 = .ok (.getfield 9, 3) := by decide +kernel
theorem dX0_order_58 : decode cX0_order 58 = .ok (.iload_n 2, 1) := by decide +kernel
theorem dX0_order_59 : decode cX0_order 59 = .ok (.aaload, 1) := by decide +kernel
theorem dX0_order_60 : decode cX0_order 60 = .ok (.astore_n 3, 1) := by decide +kernel
theorem dX0_order_61 : decode cX0_order 61 = .ok (.aload_n 0, 1) := by decide +kernel
theorem dX0_order_62 : decode cX0_order 62 = .ok (.getfield 9, 3) := by decide +kernel
theorem dX0_order_65 : decode cX0_order 65 = .ok (.iload_n 2, 1) := by decide +kernel
theorem dX0_order_66 : decode cX0_order 66 = .ok (.aload_n 0, 1) := by decide +kernel
theorem dX0_order_67 : decode cX0_order 67 = .ok (.getfield 9, 3) := by decide +kernel
theorem dX0_order_70 : decode cX0_order 70 = .ok (.iload_n 2, 1) := by decide +kernel
theorem dX0_order_71 : decode cX0_order 71 = .ok (.iconst 1, 1) := by decide +kernel
theorem dX0_order_72 : decode cX0_order 72 = .ok (.isub, 1) := by decide +kernel
theorem dX0_order_73 : decode cX0_order 73 = .ok (.aaload, 1) := by decide +kernel
theorem dX0_order_74 : decode cX0_order 74 = .ok (.aastore, 1) := by decide +kernel
theorem dX0_order_75 : decode cX0_order 75 = .ok (.aload_n 0, 1) := by decide +kernel
theorem dX0_order_76 : decode cX0_order 76 = .ok (.getfield 9, 3) := by decide +kernel
theorem dX0_order_79 : decode cX0_order 79 = .ok (.iload_n 2, 1) := by decide +kernel
theorem dX0_order_80 : decode cX0_order 80 = .ok (.iconst 1, 1) := by decide +kernel
theorem dX0_order_81 : decode cX0_order 81 = .ok (.isub, 1) := by decide +kernel
theorem dX0_order_82 : decode cX0_order 82 = .ok (.aload_n 3, 1) := by decide +kernel
theorem dX0_order_83 : decode cX0_order 83 = .ok (.aastore, 1) := by decide +kernel
theorem dX0_order_84 : decode cX0_order 84 = .ok (.iinc 2 (-1), 3) := by decide +kernel
theorem dX0_order_87 : decode cX0_order 87 = .ok (.goto (-58), 3) := by decide +kernel
theorem dX0_order_90 : decode cX0_order 90 = .ok (.iinc 1 1, 3) := by decide +kernel
theorem dX0_order_93 : decode cX0_order 93 = .ok (.goto (-83), 3) := by decide +kernel
theorem dX0_order_96 : decode cX0_order 96 = .ok (.return_, 1) := by decide +kernel
theorem dX0_isBefore_0 : decode cX0_isBefore 0 = .ok (.aload_n 1, 1) := by decide +kernel
theorem dX0_isBefore_1 : decode cX0_isBefore 1 = .ok (.ifnull 7, 3) := by decide +kernel
theorem dX0_isBefore_4 : decode cX0_isBefore 4 = .ok (.aload_n 2, 1) := by decide +kernel
theorem dX0_isBefore_5 : decode cX0_isBefore 5 = .ok (.ifnonnull 5, 3) := by decide +kernel
theorem dX0_isBefore_8 : decode cX0_isBefore 8 = .ok (.iconst 0, 1) := by decide +kernel
theorem dX0_isBefore_9 : decode cX0_isBefore 9 = .ok (.ireturn, 1) := by decide +kernel
theorem dX0_isBefore_10 : decode cX0_isBefore 10 = .ok (.aload_n 1, 1) := by decide +kernel
theorem dX0_isBefore_11 : decode cX0_isBefore 11 = .ok (.getfield 66, 3) := by decide +kernel
theorem dX0_isBefore_14 : decode cX0_isBefore 14 = .ok (.aload_n 2, 1) := by decide +kernel
theorem dX0_isBefore_15 : decode cX0_isBefore 15 = .ok (.getfield 66, 3) := by decide +kernel
theorem dX0_isBefore_18 : decode cX0_isBefore 18 = .ok (.if_icmp .eq 20, 3) := by decide +kernel
theorem dX0_isBefore_21 : decode cX0_isBefore 21 = .ok (.aload_n 1, 1) := by decide +kernel
theorem dX0_isBefore_22 : decode cX0_isBefore 22 = .ok (.getfield 66, 3) := by decide +kernel
theorem dX0_isBefore_25 : decode cX0_isBefore 25 = .ok (.aload_n 2, 1) := by decide +kernel
theorem dX0_isBefore_26 : decode cX0_isBefore 26 = .ok (.getfield 66, 3) := by decide +kernel
theorem dX0_isBefore_29 : decode cX0_isBefore 29 = .ok (.if_icmp .ge 7, 3) := by decide +kernel
theorem dX0_isBefore_32 : decode cX0_isBefore 32 = .ok (.iconst 1, 1) := by decide +kernel
theorem dX0_isBefore_33 : decode cX0_isBefore 33 = .ok (.goto 4, 3) := by decide +kernel
theorem dX0_isBefore_36 : decode cX0_isBefore 36 = .ok (.iconst 0, 1) := by decide +kernel
theorem dX0_isBefore_37 : decode cX0_isBefore 37 = .ok (.ireturn, 1) := by decide +kernel
theorem dX0_isBefore_38 : decode cX0_isBefore 38 = .ok (.aload_n 1, 1) := by decide +kernel
theorem dX0_isBefore_39 : decode cX0_isBefore 39 = .ok (.getfield 36, 3) := by decide +kernel
theorem dX0_isBefore_42 : decode cX0_isBefore 42 = .ok (.aload_n 2, 1) := by decide +kernel
theorem dX0_isBefore_43 : decode cX0_isBefore 43 = .ok (.getfield 36, 3) := by decide +kernel
theorem dX0_isBefore_46 : decode cX0_isBefore 46 = .ok (.if_icmp .ge 7, 3) := by decide +kernel
theorem dX0_isBefore_49 : decode cX0_isBefore 49 = .ok (.iconst 1, 1) := by decide +kernel
theorem dX0_isBefore_50 : decode cX0_isBefore 50 = .ok (.goto 4, 3) := by decide +kernel
theorem dX0_isBefore_53 : decode cX0_isBefore 53 = .ok (.iconst 0, 1) := by decide +kernel
theorem dX0_isBefore_54 : decode cX0_isBefore 54 = .ok (.ireturn, 1) := by decide +kernel
theorem dX0_seek_0 : decode cX0_seek 0 = .ok (.iload_n 2, 1) := by decide +kernel
theorem dX0_seek_1 : decode cX0_seek 1 = .ok (.iconst 1, 1) := by decide +kernel
theorem dX0_seek_2 : decode cX0_seek 2 = .ok (.if_icmp .le 6, 3) := by decide +kernel
theorem dX0_seek_5 : decode cX0_seek 5 = .ok (.bipush 40, 2) := by decide +kernel
theorem dX0_seek_7 : decode cX0_seek 7 = .ok (.ireturn, 1) := by decide +kernel
theorem dX0_seek_8 : decode cX0_seek 8 = .ok (.aload_n 0, 1) := by decide +kernel
theorem dX0_seek_9 : decode cX0_seek 9 = .ok (.getfield 29, 3) := by decide +kernel
theorem dX0_seek_12 : decode cX0_seek 12 = .ok (.iload_n 1, 1) := by decide +kernel
theorem dX0_seek_13 : decode cX0_seek 13 = .ok (.if_icmp .lt 8, 3) := by decide +kernel
theorem dX0_seek_16 : decode cX0_seek 16 = .ok (.aload_n 0, 1) := by decide +kernel
theorem dX0_seek_17 : decode cX0_seek 17 = .ok (.getfield 29, 3) := by decide +kernel
theorem dX0_seek_20 : decode cX0_seek 20 = .ok (.ireturn, 1) := by decide +kernel
theorem dX0_seek_21 : decode cX0_seek 21 = .ok (.aload_n 0, 1) := by decide +kernel
theorem dX0_seek_22 : decode cX0_seek 22 = .ok (.getfield 15, 3) := by decide +kernel
theorem dX0_seek_25 : decode cX0_seek 25 = .ok (.tableswitch 85 0 3 #[31, 44, 57, 70], 31) := by decide +kernel
theorem dX0_seek_56 : decode cX0_seek 56 = .ok (.aload_n 0, 1) := by decide +kernel
theorem dX0_seek_57 : decode cX0_seek 57 = .ok (.aload_n 0, 1) := by decide +kernel
theorem dX0_seek_58 : decode cX0_seek 58 = .ok (.iload_n 1, 1) := by decide +kernel
theorem dX0_seek_59 : decode cX0_seek 59 = .ok (.iload_n 2, 1) := by decide +kernel
theorem dX0_seek_60 : decode cX0_seek 60 = .ok (.invokevirtual 71, 3) := by decide +kernel
theorem dX0_seek_63 : decode cX0_seek 63 = .ok (.putfield 29, 3) := by decide +kernel
theorem dX0_seek_66 : decode cX0_seek 66 = .ok (.goto 50, 3) := by decide +kernel
theorem dX0_seek_69 : decode cX0_seek 69 = .ok (.aload_n 0, 1) := by decide +kernel
theorem dX0_seek_70 : decode cX0_seek 70 = .ok (.aload_n 0, 1) := by decide +kernel
theorem dX0_seek_71 : decode cX0_seek 71 = .ok (.iload_n 1, 1) := by decide +kernel
theorem dX0_seek_72 : decode cX0_seek 72 = .ok (.iload_n 2, 1) := by decide +kernel
theorem dX0_seek_73 : decode cX0_seek 73 = .ok (.invokevirtual 74, 3) := by decide +kernel
theorem dX0_seek_76 : decode cX0_seek 76 = .ok (.putfield 29, 3) := by decide +kernel
theorem dX0_seek_79 : decode cX0_seek 79 = .ok (.goto 37, 3) := by decide +kernel
theorem dX0_seek_82 : decode cX0_seek 82 = .ok (.aload_n 0, 1) := by decide +kernel
theorem dX0_seek_83 : decode cX0_seek 83 = .ok (.aload_n 0, 1) := by decide +kernel
theorem dX0_seek_84 : decode cX0_seek 84 = .ok (.iload_n 1, 1) := by decide +kernel
theorem dX0_seek_85 : decode cX0_seek 85 = .ok (.iload_n 2, 1) := by decide +kernel
theorem dX0_seek_86 : decode cX0_seek 86 = .ok (.invokevirtual 77, 3) := by decide +kernel
theorem dX0_seek_89 : decode cX0_seek 89 = .ok (.putfield 29, 3) := by decide +kernel
theorem dX0_seek_92 : decode cX0_seek 92 = .ok (.goto 24, 3) := by decide +kernel
theorem dX0_seek_95 : decode cX0_seek 95 = .ok (.aload_n 0, 1) := by decide +kernel
theorem dX0_seek_96 : decode cX0_seek 96 = .ok (.aload_n 0, 1) := by decide +kernel
theorem dX0_seek_97 : decode cX0_seek 97 = .ok (.getfield 25, 3) := by decide +kernel
theorem dX0_seek_100 : decode cX0_seek 100 = .ok (.iload_n 1, 1) := by decide +kernel
theorem dX0_seek_101 : decode cX0_seek 101 = .ok (.invokestatic 80, 3) := by decide +kernel
theorem dX0_seek_104 : decode cX0_seek 104 = .ok (.putfield 29, 3) := by decide +kernel
theorem dX0_seek_107 : decode cX0_seek 107 = .ok (.goto 9, 3) := by decide +kernel
theorem dX0_seek_110 : decode cX0_seek 110 = .ok (.aload_n 0, 1) := by decide +kernel
theorem dX0_seek_111 : decode cX0_seek 111 = .ok (.bipush 40, 2) := by decide +kernel
theorem dX0_seek_113 : decode cX0_seek 113 = .ok (.putfield 29, 3) := by decide +kernel
theorem dX0_seek_116 : decode cX0_seek 116 = .ok (.aload_n 0, 1) := by decide +kernel
theorem dX0_seek_117 : decode cX0_seek 117 = .ok (.getfield 29, 3) := by decide +kernel
theorem dX0_seek_120 : decode cX0_seek 120 = .ok (.ireturn, 1) := by decide +kernel
theorem dX0_seekAll_0 : decode cX0_seekAll 0 = .ok (.iload_n 1, 1) := by decide +kernel
theorem dX0_seekAll_1 : decode cX0_seekAll 1 = .ok (.istore_n 3, 1) := by decide +kernel
theorem dX0_seekAll_2 : decode cX0_seekAll 2 = .ok (.iconst 0, 1) := by decide +kernel
theorem dX0_seekAll_3 : decode cX0_seekAll 3 = .ok (.istore 4, 2) := by decide +kernel
theorem dX0_seekAll_5 : decode cX0_seekAll 5 = .ok (.iconst 0, 1) := by decide +kernel
theorem dX0_seekAll_6 : decode cX0_seekAll 6 = .ok (.istore 5, 2) := by decide +kernel
theorem dX0_seekAll_8 : decode cX0_seekAll 8 = .ok (.iload 4, 2) := by decide +kernel
theorem dX0_seekAll_10 : decode cX0_seekAll 10 = .ok (.aload_n 0, 1) := by decide +kernel
theorem dX0_seekAll_11 : decode cX0_seekAll 11 = .ok (.getfield 22, 3) := by decide +kernel
theorem dX0_seekAll_14 : decode cX0_seekAll 14 = .ok (.if_icmp .ge 74, 3) := by decide +kernel
theorem dX0_seekAll_17 : decode cX0_seekAll 17 = .ok (.iload 5, 2) := by decide +kernel
theorem dX0_seekAll_19 : decode cX0_seekAll 19 = .ok (.sipush 1000, 3) := by decide +kernel
theorem dX0_seekAll_22 : decode cX0_seekAll 22 = .ok (.if_icmp .ge 66, 3) := by decide +kernel
theorem dX0_seekAll_25 : decode cX0_seekAll 25 = .ok (.aload_n 0, 1) := by decide +kernel
theorem dX0_seekAll_26 : decode cX0_seekAll 26 = .ok (.iload 4, 2) := by decide +kernel
theorem dX0_seekAll_28 : decode cX0_seekAll 28 = .ok (.invokevirtual 32, 3) := by decide +kernel
theorem dX0_seekAll_31 : decode cX0_seekAll 31 = .ok (.astore 6, 2) := by decide +kernel
theorem dX0_seekAll_33 : decode cX0_seekAll 33 = .ok (.aload 6, 2) := by decide +kernel
theorem dX0_seekAll_35 : decode cX0_seekAll 35 = .ok (.ifnonnull 8, 3) := by decide +kernel
theorem dX0_seekAll_38 : decode cX0_seekAll 38 = .ok (.bipush 40, 2) := by decide +kernel
theorem dX0_seekAll_40 : decode cX0_seekAll 40 = .ok (.goto 12, 3) := by decide +kernel
theorem dX0_seekAll_43 : decode cX0_seekAll 43 = .ok (.aload 6, 2) := by decide +kernel
theorem dX0_seekAll_45 : decode cX0_seekAll 45 = .ok (.iload_n 3, 1) := by decide +kernel
theorem dX0_seekAll_46 : decode cX0_seekAll 46 = .ok (.iload_n 2, 1) := by decide +kernel
theorem dX0_seekAll_47 : decode cX0_seekAll 47 = .ok (.iconst 1, 1) := by decide +kernel
theorem dX0_seekAll_48 : decode cX0_seekAll 48 = .ok (.iadd, 1) := by decide +kernel
theorem dX0_seekAll_49 : decode cX0_seekAll 49 = .ok (.invokevirtual 84, 3) := by decide +kernel
theorem dX0_seekAll_52 : decode cX0_seekAll 52 = .ok (.istore 7, 2) := by decide +kernel
theorem dX0_seekAll_54 : decode cX0_seekAll 54 = .ok (.iload 7, 2) := by decide +kernel
theorem dX0_seekAll_56 : decode cX0_seekAll 56 = .ok (.bipush 40, 2) := by decide +kernel
theorem dX0_seekAll_58 : decode cX0_seekAll 58 = .ok (.if_icmp .lt 6, 3) := by decide +kernel
theorem dX0_seekAll_61 : decode cX0_seekAll 61 = .ok (.bipush 40, 2) := by decide +kernel
theorem dX0_seekAll_63 : decode cX0_seekAll 63 = .ok (.ireturn, 1) := by decide +kernel
theorem dX0_seekAll_64 : decode cX0_seekAll 64 = .ok (.iload 7, 2) := by decide +kernel
theorem dX0_seekAll_66 : decode cX0_seekAll 66 = .ok (.iload_n 3, 1) := by decide +kernel
theorem dX0_seekAll_67 : decode cX0_seekAll 67 = .ok (.if_icmp .le 12, 3) := by decide +kernel
theorem dX0_seekAll_70 : decode cX0_seekAll 70 = .ok (.iload 7, 2) := by decide +kernel
theorem dX0_seekAll_72 : decode cX0_seekAll 72 = .ok (.istore_n 3, 1) := by decide +kernel
theorem dX0_seekAll_73 : decode cX0_seekAll 73 = .ok (.iconst 0, 1) := by decide +kernel
theorem dX0_seekAll_74 : decode cX0_seekAll 74 = .ok (.istore 4, 2) := by decide +kernel
theorem dX0_seekAll_76 : decode cX0_seekAll 76 = .ok (.goto 6, 3) := by decide +kernel
theorem dX0_seekAll_79 : decode cX0_seekAll 79 = .ok (.iinc 4 1, 3) := by decide +kernel
theorem dX0_seekAll_82 : decode cX0_seekAll 82 = .ok (.iinc 5 1, 3) := by decide +kernel
theorem dX0_seekAll_85 : decode cX0_seekAll 85 = .ok (.goto (-77), 3) := by decide +kernel
theorem dX0_seekAll_88 : decode cX0_seekAll 88 = .ok (.iload_n 3, 1) := by decide +kernel
theorem dX0_seekAll_89 : decode cX0_seekAll 89 = .ok (.ireturn, 1) := by decide +kernel
theorem dX0_seekAny_0 : decode cX0_seekAny 0 = .ok (.bipush 40, 2) := by decide +kernel
theorem dX0_seekAny_2 : decode cX0_seekAny 2 = .ok (.istore_n 3, 1) := by decide +kernel
theorem dX0_seekAny_3 : decode cX0_seekAny 3 = .ok (.iconst 0, 1) := by decide +kernel
theorem dX0_seekAny_4 : decode cX0_seekAny 4 = .ok (.istore 4, 2) := by decide +kernel
theorem dX0_seekAny_6 : decode cX0_seekAny 6 = .ok (.iload 4, 2) := by decide +kernel
theorem dX0_seekAny_8 : decode cX0_seekAny 8 = .ok (.aload_n 0, 1) := by decide +kernel
theorem dX0_seekAny_9 : decode cX0_seekAny 9 = .ok (.getfield 22, 3) := by decide +kernel
theorem dX0_seekAny_12 : decode cX0_seekAny 12 = .ok (.if_icmp .ge 36, 3) := by decide +kernel
theorem dX0_seekAny_15 : decode cX0_seekAny 15 = .ok (.aload_n 0, 1) := by decide +kernel
theorem dX0_seekAny_16 : decode cX0_seekAny 16 = .ok (.iload 4, 2) := by decide +kernel
theorem dX0_seekAny_18 : decode cX0_seekAny 18 = .ok (.invokevirtual 32, 3) := by decide +kernel
theorem dX0_seekAny_21 : decode cX0_seekAny 21 = .ok (.astore 5, 2) := by decide +kernel
theorem dX0_seekAny_23 : decode cX0_seekAny 23 = .ok (.aload 5, 2) := by decide +kernel
theorem dX0_seekAny_25 : decode cX0_seekAny 25 = .ok (.ifnull 17, 3) := by decide +kernel
theorem dX0_seekAny_28 : decode cX0_seekAny 28 = .ok (.iload_n 3, 1) := by decide +kernel
theorem dX0_seekAny_29 : decode cX0_seekAny 29 = .ok (.aload 5, 2) := by decide +kernel
theorem dX0_seekAny_31 : decode cX0_seekAny 31 = .ok (.iload_n 1, 1) := by decide +kernel
theorem dX0_seekAny_32 : decode cX0_seekAny 32 = .ok (.iload_n 2, 1) := by decide +kernel
theorem dX0_seekAny_33 : decode cX0_seekAny 33 = .ok (.iconst 1, 1) := by decide +kernel
theorem dX0_seekAny_34 : decode cX0_seekAny 34 = .ok (.iadd, 1) := by decide +kernel
theorem dX0_seekAny_35 : decode cX0_seekAny 35 = .ok (.invokevirtual 84, 3) := by decide +kernel
theorem dX0_seekAny_38 : decode cX0_seekAny 38 = .ok (.invokestatic 60, 3) := by decide +kernel
theorem dX0_seekAny_41 : decode cX0_seekAny 41 = .ok (.istore_n 3, 1) := by decide +kernel
theorem dX0_seekAny_42 : decode cX0_seekAny 42 = .ok (.iinc 4 1, 3) := by decide +kernel
theorem dX0_seekAny_45 : decode cX0_seekAny 45 = .ok (.goto (-39), 3) := by decide +kernel
theorem dX0_seekAny_48 : decode cX0_seekAny 48 = .ok (.iload_n 3, 1) := by decide +kernel
theorem dX0_seekAny_49 : decode cX0_seekAny 49 = .ok (.ireturn, 1) := by decide +kernel
theorem dX0_seekSome_0 : decode cX0_seekSome 0 = .ok (.iload_n 1, 1) := by decide +kernel
theorem dX0_seekSome_1 : decode cX0_seekSome 1 = .ok (.istore_n 3, 1) := by decide +kernel
theorem dX0_seekSome_2 : decode cX0_seekSome 2 = .ok (.iconst 0, 1) := by decide +kernel
theorem dX0_seekSome_3 : decode cX0_seekSome 3 = .ok (.istore 4, 2) := by decide +kernel
theorem dX0_seekSome_5 : decode cX0_seekSome 5 = .ok (.iload 4, 2) := by decide +kernel
theorem dX0_seekSome_7 : decode cX0_seekSome 7 = .ok (.bipush 40, 2) := by decide +kernel
theorem dX0_seekSome_9 : decode cX0_seekSome 9 = .ok (.if_icmp .ge 39, 3) := by decide +kernel
theorem dX0_seekSome_12 : decode cX0_seekSome 12 = .ok (.iload_n 3, 1) := by decide +kernel
theorem dX0_seekSome_13 : decode cX0_seekSome 13 = .ok (.bipush 40, 2) := by decide +kernel
theorem dX0_seekSome_15 : decode cX0_seekSome 15 = .ok (.if_icmp .ge 33, 3) := by decide +kernel
theorem dX0_seekSome_18 : decode cX0_seekSome 18 = .ok (.aload_n 0, 1) := by decide +kernel
theorem dX0_seekSome_19 : decode cX0_seekSome 19 = .ok (.iload_n 3, 1) := by decide +kernel
theorem dX0_seekSome_20 : decode cX0_seekSome 20 = .ok (.iload_n 2, 1) := by decide +kernel
theorem dX0_seekSome_21 : decode cX0_seekSome 21 = .ok (.invokevirtual 74, 3) := by decide +kernel
theorem dX0_seekSome_24 : decode cX0_seekSome 24 = .ok (.pop, 1) := by decide +kernel
theorem dX0_seekSome_25 : decode cX0_seekSome 25 = .ok (.aload_n 0, 1) := by decide +kernel
theorem dX0_seekSome_26 : decode cX0_seekSome 26 = .ok (.invokevirtual 87, 3) := by decide +kernel
theorem dX0_seekSome_29 : decode cX0_seekSome 29 = .ok (.istore 5, 2) := by decide +kernel
theorem dX0_seekSome_31 : decode cX0_seekSome 31 = .ok (.iload 5, 2) := by decide +kernel
theorem dX0_seekSome_33 : decode cX0_seekSome 33 = .ok (.iload_n 3, 1) := by decide +kernel
theorem dX0_seekSome_34 : decode cX0_seekSome 34 = .ok (.if_icmp .gt 5, 3) := by decide +kernel
theorem dX0_seekSome_37 : decode cX0_seekSome 37 = .ok (.iload_n 3, 1) := by decide +kernel
theorem dX0_seekSome_38 : decode cX0_seekSome 38 = .ok (.ireturn, 1) := by decide +kernel
theorem dX0_seekSome_39 : decode cX0_seekSome 39 = .ok (.iload 5, 2) := by decide +kernel
theorem dX0_seekSome_41 : decode cX0_seekSome 41 = .ok (.istore_n 3, 1) := by decide +kernel
theorem dX0_seekSome_42 : decode cX0_seekSome 42 = .ok (.iinc 4 1, 3) := by decide +kernel
theorem dX0_seekSome_45 : decode cX0_seekSome 45 = .ok (.goto (-40), 3) := by decide +kernel
theorem dX0_seekSome_48 : decode cX0_seekSome 48 = .ok (.bipush 40, 2) := by decide +kernel
theorem dX0_seekSome_50 : decode cX0_seekSome 50 = .ok (.ireturn, 1) := by decide +kernel
theorem dX0_neededPlace_0 : decode cX0_neededPlace 0 = .ok (.bipush 40, 2) := by decide +kernel
theorem dX0_neededPlace_2 : decode cX0_neededPlace 2 = .ok (.istore_n 1, 1) := by decide +kernel
theorem dX0_neededPlace_3 : decode cX0_neededPlace 3 = .ok (.iconst 0, 1) := by decide +kernel
theorem dX0_neededPlace_4 : decode cX0_neededPlace 4 = .ok (.istore_n 2, 1) := by decide +kernel
theorem dX0_neededPlace_5 : decode cX0_neededPlace 5 = .ok (.iload_n 2, 1) := by decide +kernel
theorem dX0_neededPlace_6 : decode cX0_neededPlace 6 = .ok (.aload_n 0, 1) := by decide +kernel
theorem dX0_neededPlace_7 : decode cX0_neededPlace 7 = .ok (.getfield 22, 3) := by decide +kernel
theorem dX0_neededPlace_10 : decode cX0_neededPlace 10 = .ok (.if_icmp .ge 47, 3) := by decide +kernel
theorem dX0_neededPlace_13 : decode cX0_neededPlace 13 = .ok (.aload_n 0, 1) := by decide +kernel
theorem dX0_neededPlace_14 : decode cX0_neededPlace 14 = .ok (.iload_n 2, 1) := by decide +kernel
theorem dX0_neededPlace_15 : decode cX0_neededPlace 15 = .ok (.invokevirtual 32, 3) := by decide +kernel
theorem dX0_neededPlace_18 : decode cX0_neededPlace 18 = .ok (.astore_n 3, 1) := by decide +kernel
theorem dX0_neededPlace_19 : decode cX0_neededPlace 19 = .ok (.aload_n 3, 1) := by decide +kernel
theorem dX0_neededPlace_20 : decode cX0_neededPlace 20 = .ok (.ifnull 31, 3) := by decide +kernel
theorem dX0_neededPlace_23 : decode cX0_neededPlace 23 = .ok (.aload_n 3, 1) := by decide +kernel
theorem dX0_neededPlace_24 : decode cX0_neededPlace 24 = .ok (.getfield 90, 3) := by decide +kernel
theorem dX0_neededPlace_27 : decode cX0_neededPlace 27 = .ok (.iload_n 1, 1) := by decide +kernel
theorem dX0_neededPlace_28 : decode cX0_neededPlace 28 = .ok (.if_icmp .ge 23, 3) := by decide +kernel
theorem dX0_neededPlace_31 : decode cX0_neededPlace 31 = .ok (.aload_n 0, 1) := by decide +kernel
theorem dX0_neededPlace_32 : decode cX0_neededPlace 32 = .ok (.aload_n 3, 1) := by decide +kernel
theorem dX0_neededPlace_33 : decode cX0_neededPlace 33 = .ok (.getfield 90, 3) := by decide +kernel
theorem dX0_neededPlace_36 : decode cX0_neededPlace 36 = .ok (.invokevirtual 91, 3) := by decide +kernel
theorem dX0_neededPlace_39 : decode cX0_neededPlace 39 = .ok (.aload_n 0, 1) := by decide +kernel
theorem dX0_neededPlace_40 : decode cX0_neededPlace 40 = .ok (.getfield 19, 3) := by decide +kernel
theorem dX0_neededPlace_43 : decode cX0_neededPlace 43 = .ok (.if_icmp .lt 8, 3) := by decide +kernel
theorem dX0_neededPlace_46 : decode cX0_neededPlace 46 = .ok (.aload_n 3, 1) := by decide +kernel
theorem dX0_neededPlace_47 : decode cX0_neededPlace 47 = .ok (.getfield 90, 3) := by decide +kernel
theorem dX0_neededPlace_50 : decode cX0_neededPlace 50 = .ok (.istore_n 1, 1) := by decide +kernel
theorem dX0_neededPlace_51 : decode cX0_neededPlace 51 = .ok (.iinc 2 1, 3) := by decide +kernel
theorem dX0_neededPlace_54 : decode cX0_neededPlace 54 = .ok (.goto (-49), 3) := by decide +kernel
theorem dX0_neededPlace_57 : decode cX0_neededPlace 57 = .ok (.iload_n 1, 1) := by decide +kernel
theorem dX0_neededPlace_58 : decode cX0_neededPlace 58 = .ok (.ireturn, 1) := by decide +kernel
theorem dX0_placesUpTo_0 : decode cX0_placesUpTo 0 = .ok (.iconst 0, 1) := by decide +kernel
theorem dX0_placesUpTo_1 : decode cX0_placesUpTo 1 = .ok (.istore_n 2, 1) := by decide +kernel
theorem dX0_placesUpTo_2 : decode cX0_placesUpTo 2 = .ok (.iconst 0, 1) := by decide +kernel
theorem dX0_placesUpTo_3 : decode cX0_placesUpTo 3 = .ok (.istore_n 3, 1) := by decide +kernel
theorem dX0_placesUpTo_4 : decode cX0_placesUpTo 4 = .ok (.iload_n 3, 1) := by decide +kernel
theorem dX0_placesUpTo_5 : decode cX0_placesUpTo 5 = .ok (.aload_n 0, 1) := by decide +kernel
theorem dX0_placesUpTo_6 : decode cX0_placesUpTo 6 = .ok (.getfield 22, 3) := by decide +kernel
theorem dX0_placesUpTo_9 : decode cX0_placesUpTo 9 = .ok (.if_icmp .ge 33, 3) := by decide +kernel
theorem dX0_placesUpTo_12 : decode cX0_placesUpTo 12 = .ok (.aload_n 0, 1) := by decide +kernel
theorem dX0_placesUpTo_13 : decode cX0_placesUpTo 13 = .ok (.iload_n 3, 1) := by decide +kernel
theorem dX0_placesUpTo_14 : decode cX0_placesUpTo 14 = .ok (.invokevirtual 32, 3) := by decide +kernel
theorem dX0_placesUpTo_17 : decode cX0_placesUpTo 17 = .ok (.astore 4, 2) := by decide +kernel
theorem dX0_placesUpTo_19 : decode cX0_placesUpTo 19 = .ok (.aload 4, 2) := by decide +kernel
theorem dX0_placesUpTo_21 : decode cX0_placesUpTo 21 = .ok (.ifnull 15, 3) := by decide +kernel
theorem dX0_placesUpTo_24 : decode cX0_placesUpTo 24 = .ok (.aload 4, 2) := by decide +kernel
theorem dX0_placesUpTo_26 : decode cX0_placesUpTo 26 = .ok (.getfield 90, 3) := by decide +kernel
theorem dX0_placesUpTo_29 : decode cX0_placesUpTo 29 = .ok (.iload_n 1, 1) := by decide +kernel
theorem dX0_placesUpTo_30 : decode cX0_placesUpTo 30 = .ok (.if_icmp .gt 6, 3) := by decide +kernel
theorem dX0_placesUpTo_33 : decode cX0_placesUpTo 33 = .ok (.iinc 2 1, 3) := by decide +kernel
theorem dX0_placesUpTo_36 : decode cX0_placesUpTo 36 = .ok (.iinc 3 1, 3) := by decide +kernel
theorem dX0_placesUpTo_39 : decode cX0_placesUpTo 39 = .ok (.goto (-35), 3) := by decide +kernel
theorem dX0_placesUpTo_42 : decode cX0_placesUpTo 42 = .ok (.iload_n 2, 1) := by decide +kernel
theorem dX0_placesUpTo_43 : decode cX0_placesUpTo 43 = .ok (.ireturn, 1) := by decide +kernel
theorem dX1_init_0 : decode cX1_init 0 = .ok (.aload_n 0, 1) := by decide +kernel
theorem dX1_init_1 : decode cX1_init 1 = .ok (.invokespecial 1, 3) := by decide +kernel
theorem dX1_init_4 : decode cX1_init 4 = .ok (.return_, 1) := by decide +kernel
theorem dX2_init_0 : decode cX2_init 0 = .ok (.aload_n 0, 1) := by decide +kernel
theorem dX2_init_1 : decode cX2_init 1 = .ok (.invokespecial 3, 3) := by decide +kernel
theorem dX2_init_4 : decode cX2_init 4 = .ok (.aload_n 0, 1) := by decide +kernel
theorem dX2_init_5 : decode cX2_init 5 = .ok (.iconst 5, 1) := by decide +kernel
theorem dX2_init_6 : decode cX2_init 6 = .ok (.anewarray 9, 3) := by decide +kernel
theorem dX2_init_9 : decode cX2_init 9 = .ok (.putfield 11, 3) := by decide +kernel
theorem dX2_init_12 : decode cX2_init 12 = .ok (.iconst 0, 1) := by decide +kernel
theorem dX2_init_13 : decode cX2_init 13 = .ok (.istore_n 2, 1) := by decide +kernel
theorem dX2_init_14 : decode cX2_init 14 = .ok (.iload_n 2, 1) := by decide +kernel
theorem dX2_init_15 : decode cX2_init 15 = .ok (.aload_n 0, 1) := by decide +kernel
theorem dX2_init_16 : decode cX2_init 16 = .ok (.getfield 11, 3) := by decide +kernel
theorem dX2_init_19 : decode cX2_init 19 = .ok (.arraylength, 1) := by decide +kernel
theorem dX2_init_20 : decode cX2_init 20 = .ok (.if_icmp .ge 24, 3) := by decide +kernel
theorem dX2_init_23 : decode cX2_init 23 = .ok (.aload_n 0, 1) := by decide +kernel
theorem dX2_init_24 : decode cX2_init 24 = .ok (.getfield 11, 3) := by decide +kernel
theorem dX2_init_27 : decode cX2_init 27 = .ok (.iload_n 2, 1) := by decide +kernel
theorem dX2_init_28 : decode cX2_init 28 = .ok (.new 9, 3) := by decide +kernel
theorem dX2_init_31 : decode cX2_init 31 = .ok (.dup, 1) := by decide +kernel
theorem dX2_init_32 : decode cX2_init 32 = .ok (.iload_n 2, 1) := by decide +kernel
theorem dX2_init_33 : decode cX2_init 33 = .ok (.aload_n 1, 1) := by decide +kernel
theorem dX2_init_34 : decode cX2_init 34 = .ok (.invokespecial 17, 3) := by decide +kernel
theorem dX2_init_37 : decode cX2_init 37 = .ok (.aastore, 1) := by decide +kernel
theorem dX2_init_38 : decode cX2_init 38 = .ok (.iinc 2 1, 3) := by decide +kernel
theorem dX2_init_41 : decode cX2_init 41 = .ok (.goto (-27), 3) := by decide +kernel
theorem dX2_init_44 : decode cX2_init 44 = .ok (.return_, 1) := by decide +kernel
theorem dX2_make_0 : decode cX2_make 0 = .ok (.aload_n 2, 1) := by decide +kernel
theorem dX2_make_1 : decode cX2_make 1 = .ok (.invokevirtual 20, 3) := by decide +kernel
theorem dX2_make_4 : decode cX2_make 4 = .ok (.lstore_n 3, 1) := by decide +kernel
theorem dX2_make_5 : decode cX2_make 5 = .ok (.aload_n 0, 1) := by decide +kernel
theorem dX2_make_6 : decode cX2_make 6 = .ok (.aload_n 1, 1) := by decide +kernel
theorem dX2_make_7 : decode cX2_make 7 = .ok (.getfield 26, 3) := by decide +kernel
theorem dX2_make_10 : decode cX2_make 10 = .ok (.aload_n 1, 1) := by decide +kernel
theorem dX2_make_11 : decode cX2_make 11 = .ok (.getfield 32, 3) := by decide +kernel
theorem dX2_make_14 : decode cX2_make 14 = .ok (.lload_n 3, 1) := by decide +kernel
theorem dX2_make_15 : decode cX2_make 15 = .ok (.invokevirtual 35, 3) := by decide +kernel
theorem dX2_make_18 : decode cX2_make 18 = .ok (.iconst 0, 1) := by decide +kernel
theorem dX2_make_19 : decode cX2_make 19 = .ok (.istore 5, 2) := by decide +kernel
theorem dX2_make_21 : decode cX2_make 21 = .ok (.iload 5, 2) := by decide +kernel
theorem dX2_make_23 : decode cX2_make 23 = .ok (.aload_n 0, 1) := by decide +kernel
theorem dX2_make_24 : decode cX2_make 24 = .ok (.getfield 11, 3) := by decide +kernel
theorem dX2_make_27 : decode cX2_make 27 = .ok (.arraylength, 1) := by decide +kernel
theorem dX2_make_28 : decode cX2_make 28 = .ok (.if_icmp .ge 64, 3) := by decide +kernel
theorem dX2_make_31 : decode cX2_make 31 = .ok (.aload_n 0, 1) := by decide +kernel
theorem dX2_make_32 : decode cX2_make 32 = .ok (.invokevirtual 39, 3) := by decide +kernel
theorem dX2_make_35 : decode cX2_make 35 = .ok (.ifCond .ne 57, 3) := by decide +kernel
theorem dX2_make_38 : decode cX2_make 38 = .ok (.aload_n 1, 1) := by decide +kernel
theorem dX2_make_39 : decode cX2_make 39 = .ok (.iload 5, 2) := by decide +kernel
theorem dX2_make_41 : decode cX2_make 41 = .ok (.invokevirtual 43, 3) := by decide +kernel
theorem dX2_make_44 : decode cX2_make 44 = .ok (.astore 6, 2) := by decide +kernel
theorem dX2_make_46 : decode cX2_make 46 = .ok (.aload 6, 2) := by decide +kernel
theorem dX2_make_48 : decode cX2_make 48 = .ok (.ifnull 38, 3) := by decide +kernel
theorem dX2_make_51 : decode cX2_make 51 = .ok (.aload_n 0, 1) := by decide +kernel
theorem dX2_make_52 : decode cX2_make 52 = .ok (.getfield 11, 3) := by decide +kernel
theorem dX2_make_55 : decode cX2_make 55 = .ok (.iload 5, 2) := by decide +kernel
theorem dX2_make_57 : decode cX2_make 57 = .ok (.aaload, 1) := by decide +kernel
theorem dX2_make_58 : decode cX2_make 58 = .ok (.ifnull 28, 3) := by decide +kernel
theorem dX2_make_61 : decode cX2_make 61 = .ok (.aload_n 0, 1) := by decide +kernel
theorem dX2_make_62 : decode cX2_make 62 = .ok (.getfield 11, 3) := by decide +kernel
theorem dX2_make_65 : decode cX2_make 65 = .ok (.iload 5, 2) := by decide +kernel
theorem dX2_make_67 : decode cX2_make 67 = .ok (.aaload, 1) := by decide +kernel
theorem dX2_make_68 : decode cX2_make 68 = .ok (.aload 6, 2) := by decide +kernel
theorem dX2_make_70 : decode cX2_make 70 = .ok (.aload_n 2, 1) := by decide +kernel
theorem dX2_make_71 : decode cX2_make 71 = .ok (.lload_n 3, 1) := by decide +kernel
theorem dX2_make_72 : decode cX2_make 72 = .ok (.invokevirtual 47, 3) := by decide +kernel
theorem dX2_make_75 : decode cX2_make 75 = .ok (.aload_n 0, 1) := by decide +kernel
theorem dX2_make_76 : decode cX2_make 76 = .ok (.aload_n 0, 1) := by decide +kernel
theorem dX2_make_77 : decode cX2_make 77 = .ok (.getfield 11, 3) := by decide +kernel
theorem dX2_make_80 : decode cX2_make 80 = .ok (.iload 5, 2) := by decide +kernel
theorem dX2_make_82 : decode cX2_make 82 = .ok (.aaload, 1) := by decide +kernel
theorem dX2_make_83 : decode cX2_make 83 = .ok (.invokevirtual 51, 3) := by decide +kernel
theorem dX2_make_86 : decode cX2_make 86 = .ok (.iinc 5 1, 3) := by decide +kernel
theorem dX2_make_89 : decode cX2_make 89 = .ok (.goto (-68), 3) := by decide +kernel
theorem dX2_make_92 : decode cX2_make 92 = .ok (.aload_n 0, 1) := by decide +kernel
theorem dX2_make_93 : decode cX2_make 93 = .ok (.aload_n 0, 1) := by decide +kernel
theorem dX2_make_94 : decode cX2_make 94 = .ok (.getfield 55, 3) := by decide +kernel
theorem dX2_make_97 : decode cX2_make 97 = .ok (.invokevirtual 58, 3) := by decide +kernel
theorem dX2_make_100 : decode cX2_make 100 = .ok (.aload_n 0, 1) := by decide +kernel
theorem dX2_make_101 : decode cX2_make 101 = .ok (.invokevirtual 62, 3) := by decide +kernel
theorem dX2_make_104 : decode cX2_make 104 = .ok (.aload_n 0, 1) := by decide +kernel
theorem dX2_make_105 : decode cX2_make 105 = .ok (.invokevirtual 65, 3) := by decide +kernel
theorem dX2_make_108 : decode cX2_make 108 = .ok (.aload_n 0, 1) := by decide +kernel
theorem dX2_make_109 : decode cX2_make 109 = .ok (.invokevirtual 68, 3) := by decide +kernel
theorem dX2_make_112 : decode cX2_make 112 = .ok (.return_, 1) := by decide +kernel
theorem dX2_takeIn_0 : decode cX2_takeIn 0 = .ok (.aload_n 1, 1) := by decide +kernel
theorem dX2_takeIn_1 : decode cX2_takeIn 1 = .ok (.invokevirtual 71, 3) := by decide +kernel
theorem dX2_takeIn_4 : decode cX2_takeIn 4 = .ok (.ifCond .ne 11, 3) := by decide +kernel
theorem dX2_takeIn_7 : decode cX2_takeIn 7 = .ok (.aload_n 0, 1) := by decide +kernel
theorem dX2_takeIn_8 : decode cX2_takeIn 8 = .ok (.aload_n 1, 1) := by decide +kernel
theorem dX2_takeIn_9 : decode cX2_takeIn 9 = .ok (.invokevirtual 72, 3) := by decide +kernel
theorem dX2_takeIn_12 : decode cX2_takeIn 12 = .ok (.goto 76, 3) := by decide +kernel
theorem dX2_takeIn_15 : decode cX2_takeIn 15 = .ok (.aload_n 1, 1) := by decide +kernel
theorem dX2_takeIn_16 : decode cX2_takeIn 16 = .ok (.getfield 76, 3) := by decide +kernel
theorem dX2_takeIn_19 : decode cX2_takeIn 19 = .ok (.iconst 3, 1) := by decide +kernel
theorem dX2_takeIn_20 : decode cX2_takeIn 20 = .ok (.if_icmp .ne 24, 3) := by decide +kernel
theorem dX2_takeIn_23 : decode cX2_takeIn 23 = .ok (.aload_n 0, 1) := by decide +kernel
theorem dX2_takeIn_24 : decode cX2_takeIn 24 = .ok (.getfield 77, 3) := by decide +kernel
theorem dX2_takeIn_27 : decode cX2_takeIn 27 = .ok (.iconst 2, 1) := by decide +kernel
theorem dX2_takeIn_28 : decode cX2_takeIn 28 = .ok (.if_icmp .ne 16, 3) := by decide +kernel
theorem dX2_takeIn_31 : decode cX2_takeIn 31 = .ok (.aload_n 0, 1) := by decide +kernel
theorem dX2_takeIn_32 : decode cX2_takeIn 32 = .ok (.dup, 1) := by decide +kernel
theorem dX2_takeIn_33 : decode cX2_takeIn 33 = .ok (.getfield 78, 3) := by decide +kernel
theorem dX2_takeIn_36 : decode cX2_takeIn 36 = .ok (.iconst 1, 1) := by decide +kernel
theorem dX2_takeIn_37 : decode cX2_takeIn 37 = .ok (.isub, 1) := by decide +kernel
theorem dX2_takeIn_38 : decode cX2_takeIn 38 = .ok (.putfield 78, 3) := by decide +kernel
theorem dX2_takeIn_41 : decode cX2_takeIn 41 = .ok (.goto 47, 3) := by decide +kernel
theorem dX2_takeIn_44 : decode cX2_takeIn 44 = .ok (.aload_n 1, 1) := by decide +kernel
theorem dX2_takeIn_45 : decode cX2_takeIn 45 = .ok (.getfield 76, 3) := by decide +kernel
theorem dX2_takeIn_48 : decode cX2_takeIn 48 = .ok (.iconst 3, 1) := by decide +kernel
theorem dX2_takeIn_49 : decode cX2_takeIn 49 = .ok (.if_icmp .ne 19, 3) := by decide +kernel
theorem dX2_takeIn_52 : decode cX2_takeIn 52 = .ok (.aload_n 0, 1) := by decide +kernel
theorem dX2_takeIn_53 : decode cX2_takeIn 53 = .ok (.getfield 77, 3) := by decide +kernel
theorem dX2_takeIn_56 : decode cX2_takeIn 56 = .ok (.iconst 1, 1) := by decide +kernel
theorem dX2_takeIn_57 : decode cX2_takeIn 57 = .ok (.if_icmp .ne 11, 3) := by decide +kernel
theorem dX2_takeIn_60 : decode cX2_takeIn 60 = .ok (.aload_n 0, 1) := by decide +kernel
theorem dX2_takeIn_61 : decode cX2_takeIn 61 = .ok (.iconst 3, 1) := by decide +kernel
theorem dX2_takeIn_62 : decode cX2_takeIn 62 = .ok (.invokevirtual 79, 3) := by decide +kernel
theorem dX2_takeIn_65 : decode cX2_takeIn 65 = .ok (.goto 23, 3) := by decide +kernel
theorem dX2_takeIn_68 : decode cX2_takeIn 68 = .ok (.aload_n 1, 1) := by decide +kernel
theorem dX2_takeIn_69 : decode cX2_takeIn 69 = .ok (.getfield 76, 3) := by decide +kernel
theorem dX2_takeIn_72 : decode cX2_takeIn 72 = .ok (.iconst 4, 1) := by decide +kernel
theorem dX2_takeIn_73 : decode cX2_takeIn 73 = .ok (.if_icmp .ne 15, 3) := by decide +kernel
theorem dX2_takeIn_76 : decode cX2_takeIn 76 = .ok (.aload_n 0, 1) := by decide +kernel
theorem dX2_takeIn_77 : decode cX2_takeIn 77 = .ok (.getfield 77, 3) := by decide +kernel
theorem dX2_takeIn_80 : decode cX2_takeIn 80 = .ok (.ifCond .ne 8, 3) := by decide +kernel
theorem dX2_takeIn_83 : decode cX2_takeIn 83 = .ok (.aload_n 0, 1) := by decide +kernel
theorem dX2_takeIn_84 : decode cX2_takeIn 84 = .ok (.iconst 4, 1) := by decide +kernel
theorem dX2_takeIn_85 : decode cX2_takeIn 85 = .ok (.invokevirtual 79, 3) := by decide +kernel
theorem dX2_takeIn_88 : decode cX2_takeIn 88 = .ok (.return_, 1) := by decide +kernel
theorem dX2_plannedAt_0 : decode cX2_plannedAt 0 = .ok (.aload_n 0, 1) := by decide +kernel
theorem dX2_plannedAt_1 : decode cX2_plannedAt 1 = .ok (.iload_n 1, 1) := by decide +kernel
theorem dX2_plannedAt_2 : decode cX2_plannedAt 2 = .ok (.invokevirtual 82, 3) := by decide +kernel
theorem dX2_plannedAt_5 : decode cX2_plannedAt 5 = .ok (.astore_n 2, 1) := by decide +kernel
theorem dX2_plannedAt_6 : decode cX2_plannedAt 6 = .ok (.aload_n 2, 1) := by decide +kernel
theorem dX2_plannedAt_7 : decode cX2_plannedAt 7 = .ok (.ifnull 22, 3) := by decide +kernel
theorem dX2_plannedAt_10 : decode cX2_plannedAt 10 = .ok (.aload_n 2, 1) := by decide +kernel
theorem dX2_plannedAt_11 : decode cX2_plannedAt 11 = .ok (.getfield 86, 3) := by decide +kernel
theorem dX2_plannedAt_14 : decode cX2_plannedAt 14 = .ok (.ifCond .lt 15, 3) := by decide +kernel
theorem dX2_plannedAt_17 : decode cX2_plannedAt 17 = .ok (.aload_n 2, 1) := by decide +kernel
theorem dX2_plannedAt_18 : decode cX2_plannedAt 18 = .ok (.getfield 86, 3) := by decide +kernel
theorem dX2_plannedAt_21 : decode cX2_plannedAt 21 = .ok (.aload_n 0, 1) := by decide +kernel
theorem dX2_plannedAt_22 : decode cX2_plannedAt 22 = .ok (.getfield 11, 3) := by decide +kernel
theorem dX2_plannedAt_25 : decode cX2_plannedAt 25 = .ok (.arraylength, 1) := by decide +kernel
theorem dX2_plannedAt_26 : decode cX2_plannedAt 26 = .ok (.if_icmp .lt 5, 3) := by decide +kernel
theorem dX2_plannedAt_29 : decode cX2_plannedAt 29 = .ok (.aconst_null, 1) := by decide +kernel
theorem dX2_plannedAt_30 : decode cX2_plannedAt 30 = .ok (.areturn, 1) := by decide +kernel
theorem dX2_plannedAt_31 : decode cX2_plannedAt 31 = .ok (.aload_n 0, 1) := by decide +kernel
theorem dX2_plannedAt_32 : decode cX2_plannedAt 32 = .ok (.getfield 11, 3) := by decide +kernel
theorem dX2_plannedAt_35 : decode cX2_plannedAt 35 = .ok (.aload_n 2, 1) := by decide +kernel
theorem dX2_plannedAt_36 : decode cX2_plannedAt 36 = .ok (.getfield 86, 3) := by decide +kernel
theorem dX2_plannedAt_39 : decode cX2_plannedAt 39 = .ok (.aaload, 1) := by decide +kernel
theorem dX2_plannedAt_40 : decode cX2_plannedAt 40 = .ok (.areturn, 1) := by decide +kernel
end
section
theorem dX3_init_0 : decode cX3_init 0 = .ok (.aload_n 0, 1) := by decide +kernel
theorem dX3_init_1 : decode cX3_init 1 = .ok (.invokespecial 3, 3) := by decide +kernel
theorem dX3_init_4 : decode cX3_init 4 = .ok (.aload_n 0, 1) := by decide +kernel
theorem dX3_init_5 : decode cX3_init 5 = .ok (.iload_n 1, 1) := by decide +kernel
theorem dX3_init_6 : decode cX3_init 6 = .ok (.putfield 9, 3) := by decide +kernel
theorem dX3_init_9 : decode cX3_init 9 = .ok (.aload_n 0, 1) := by decide +kernel
theorem dX3_init_10 : decode cX3_init 10 = .ok (.bipush 6, 2) := by decide +kernel
theorem dX3_init_12 : decode cX3_init 12 = .ok (.anewarray 15, 3) := by decide +kernel
theorem dX3_init_15 : decode cX3_init 15 = .ok (.putfield 17, 3) := by decide +kernel
theorem dX3_init_18 : decode cX3_init 18 = .ok (.iconst 0, 1) := by decide +kernel
theorem dX3_init_19 : decode cX3_init 19 = .ok (.istore_n 3, 1) := by decide +kernel
theorem dX3_init_20 : decode cX3_init 20 = .ok (.iload_n 3, 1) := by decide +kernel
theorem dX3_init_21 : decode cX3_init 21 = .ok (.aload_n 0, 1) := by decide +kernel
theorem dX3_init_22 : decode cX3_init 22 = .ok (.getfield 17, 3) := by decide +kernel
theorem dX3_init_25 : decode cX3_init 25 = .ok (.arraylength, 1) := by decide +kernel
theorem dX3_init_26 : decode cX3_init 26 = .ok (.if_icmp .ge 23, 3) := by decide +kernel
theorem dX3_init_29 : decode cX3_init 29 = .ok (.aload_n 0, 1) := by decide +kernel
theorem dX3_init_30 : decode cX3_init 30 = .ok (.getfield 17, 3) := by decide +kernel
theorem dX3_init_33 : decode cX3_init 33 = .ok (.iload_n 3, 1) := by decide +kernel
theorem dX3_init_34 : decode cX3_init 34 = .ok (.new 15, 3) := by decide +kernel
theorem dX3_init_37 : decode cX3_init 37 = .ok (.dup, 1) := by decide +kernel
theorem dX3_init_38 : decode cX3_init 38 = .ok (.aload_n 2, 1) := by decide +kernel
theorem dX3_init_39 : decode cX3_init 39 = .ok (.invokespecial 21, 3) := by decide +kernel
theorem dX3_init_42 : decode cX3_init 42 = .ok (.aastore, 1) := by decide +kernel
theorem dX3_init_43 : decode cX3_init 43 = .ok (.iinc 3 1, 3) := by decide +kernel
theorem dX3_init_46 : decode cX3_init 46 = .ok (.goto (-26), 3) := by decide +kernel
theorem dX3_init_49 : decode cX3_init 49 = .ok (.return_, 1) := by decide +kernel
theorem dX3_make_0 : decode cX3_make 0 = .ok (.aload_n 0, 1) := by decide +kernel
theorem dX3_make_1 : decode cX3_make 1 = .ok (.aload_n 1, 1) := by decide +kernel
theorem dX3_make_2 : decode cX3_make 2 = .ok (.getfield 24, 3) := by decide +kernel
theorem dX3_make_5 : decode cX3_make 5 = .ok (.aload_n 1, 1) := by decide +kernel
theorem dX3_make_6 : decode cX3_make 6 = .ok (.getfield 29, 3) := by decide +kernel
theorem dX3_make_9 : decode cX3_make 9 = .ok (.lload_n 3, 1) := by decide +kernel
theorem dX3_make_10 : decode cX3_make 10 = .ok (.invokevirtual 32, 3) := by decide +kernel
theorem dX3_make_13 : decode cX3_make 13 = .ok (.aload_n 1, 1) := by decide +kernel
theorem dX3_make_14 : decode cX3_make 14 = .ok (.getfield 36, 3) := by decide +kernel
theorem dX3_make_17 : decode cX3_make 17 = .ok (.ifCond .eq 11, 3) := by decide +kernel
theorem dX3_make_20 : decode cX3_make 20 = .ok (.aload_n 0, 1) := by decide +kernel
theorem dX3_make_21 : decode cX3_make 21 = .ok (.aload_n 1, 1) := by decide +kernel
theorem dX3_make_22 : decode cX3_make 22 = .ok (.getfield 40, 3) := by decide +kernel
theorem dX3_make_25 : decode cX3_make 25 = .ok (.invokevirtual 43, 3) := by decide +kernel
theorem dX3_make_28 : decode cX3_make 28 = .ok (.aload_n 0, 1) := by decide +kernel
theorem dX3_make_29 : decode cX3_make 29 = .ok (.aload_n 1, 1) := by decide +kernel
theorem dX3_make_30 : decode cX3_make 30 = .ok (.getfield 40, 3) := by decide +kernel
theorem dX3_make_33 : decode cX3_make 33 = .ok (.invokevirtual 47, 3) := by decide +kernel
theorem dX3_make_36 : decode cX3_make 36 = .ok (.aload_n 0, 1) := by decide +kernel
theorem dX3_make_37 : decode cX3_make 37 = .ok (.aload_n 1, 1) := by decide +kernel
theorem dX3_make_38 : decode cX3_make 38 = .ok (.aload_n 2, 1) := by decide +kernel
theorem dX3_make_39 : decode cX3_make 39 = .ok (.lload_n 3, 1) := by decide +kernel
theorem dX3_make_40 : decode cX3_make 40 = .ok (.invokevirtual 50, 3) := by decide +kernel
theorem dX3_make_43 : decode cX3_make 43 = .ok (.aload_n 0, 1) := by decide +kernel
theorem dX3_make_44 : decode cX3_make 44 = .ok (.invokevirtual 54, 3) := by decide +kernel
theorem dX3_make_47 : decode cX3_make 47 = .ok (.aload_n 0, 1) := by decide +kernel
theorem dX3_make_48 : decode cX3_make 48 = .ok (.invokevirtual 57, 3) := by decide +kernel
theorem dX3_make_51 : decode cX3_make 51 = .ok (.aload_n 0, 1) := by decide +kernel
theorem dX3_make_52 : decode cX3_make 52 = .ok (.invokevirtual 60, 3) := by decide +kernel
theorem dX3_make_55 : decode cX3_make 55 = .ok (.aload_n 0, 1) := by decide +kernel
theorem dX3_make_56 : decode cX3_make 56 = .ok (.invokevirtual 63, 3) := by decide +kernel
theorem dX3_make_59 : decode cX3_make 59 = .ok (.return_, 1) := by decide +kernel
theorem dX3_turn_0 : decode cX3_turn 0 = .ok (.aload_n 0, 1) := by decide +kernel
theorem dX3_turn_1 : decode cX3_turn 1 = .ok (.getfield 66, 3) := by decide +kernel
theorem dX3_turn_4 : decode cX3_turn 4 = .ok (.iconst 2, 1) := by decide +kernel
theorem dX3_turn_5 : decode cX3_turn 5 = .ok (.if_icmp .ne 18, 3) := by decide +kernel
theorem dX3_turn_8 : decode cX3_turn 8 = .ok (.aload_n 0, 1) := by decide +kernel
theorem dX3_turn_9 : decode cX3_turn 9 = .ok (.iload_n 1, 1) := by decide +kernel
theorem dX3_turn_10 : decode cX3_turn 10 = .ok (.aload_n 0, 1) := by decide +kernel
theorem dX3_turn_11 : decode cX3_turn 11 = .ok (.getfield 67, 3) := by decide +kernel
theorem dX3_turn_14 : decode cX3_turn 14 = .ok (.isub, 1) := by decide +kernel
theorem dX3_turn_15 : decode cX3_turn 15 = .ok (.iconst 1, 1) := by decide +kernel
theorem dX3_turn_16 : decode cX3_turn 16 = .ok (.iadd, 1) := by decide +kernel
theorem dX3_turn_17 : decode cX3_turn 17 = .ok (.putfield 67, 3) := by decide +kernel
theorem dX3_turn_20 : decode cX3_turn 20 = .ok (.goto 19, 3) := by decide +kernel
theorem dX3_turn_23 : decode cX3_turn 23 = .ok (.aload_n 0, 1) := by decide +kernel
theorem dX3_turn_24 : decode cX3_turn 24 = .ok (.aload_n 0, 1) := by decide +kernel
theorem dX3_turn_25 : decode cX3_turn 25 = .ok (.getfield 66, 3) := by decide +kernel
theorem dX3_turn_28 : decode cX3_turn 28 = .ok (.ifCond .ne 7, 3) := by decide +kernel
theorem dX3_turn_31 : decode cX3_turn 31 = .ok (.iconst 1, 1) := by decide +kernel
theorem dX3_turn_32 : decode cX3_turn 32 = .ok (.goto 4, 3) := by decide +kernel
theorem dX3_turn_35 : decode cX3_turn 35 = .ok (.iconst 0, 1) := by decide +kernel
theorem dX3_turn_36 : decode cX3_turn 36 = .ok (.putfield 66, 3) := by decide +kernel
theorem dX3_turn_39 : decode cX3_turn 39 = .ok (.return_, 1) := by decide +kernel
theorem dX3_keepLiterals_0 : decode cX3_keepLiterals 0 = .ok (.aload_n 0, 1) := by decide +kernel
theorem dX3_keepLiterals_1 : decode cX3_keepLiterals 1 = .ok (.invokevirtual 68, 3) := by decide +kernel
theorem dX3_keepLiterals_4 : decode cX3_keepLiterals 4 = .ok (.ifCond .eq 4, 3) := by decide +kernel
theorem dX3_keepLiterals_7 : decode cX3_keepLiterals 7 = .ok (.return_, 1) := by decide +kernel
theorem dX3_keepLiterals_8 : decode cX3_keepLiterals 8 = .ok (.iconst 0, 1) := by decide +kernel
theorem dX3_keepLiterals_9 : decode cX3_keepLiterals 9 = .ok (.istore 5, 2) := by decide +kernel
theorem dX3_keepLiterals_11 : decode cX3_keepLiterals 11 = .ok (.iload 5, 2) := by decide +kernel
theorem dX3_keepLiterals_13 : decode cX3_keepLiterals 13 = .ok (.aload_n 1, 1) := by decide +kernel
theorem dX3_keepLiterals_14 : decode cX3_keepLiterals 14 = .ok (.getfield 40, 3) := by decide +kernel
theorem dX3_keepLiterals_17 : decode cX3_keepLiterals 17 = .ok (.if_icmp .ge 115, 3) := by decide +kernel
theorem dX3_keepLiterals_20 : decode cX3_keepLiterals 20 = .ok (.iload 5, 2) := by decide +kernel
theorem dX3_keepLiterals_22 : decode cX3_keepLiterals 22 = .ok (.aload_n 1, 1) := by decide +kernel
theorem dX3_keepLiterals_23 : decode cX3_keepLiterals 23 = .ok (.getfield 72, 3) := by decide +kernel
theorem dX3_keepLiterals_26 : decode cX3_keepLiterals 26 = .ok (.arraylength, 1) := by decide +kernel
theorem dX3_keepLiterals_27 : decode cX3_keepLiterals 27 = .ok (.if_icmp .ge 105, 3) := by decide +kernel
theorem dX3_keepLiterals_30 : decode cX3_keepLiterals 30 = .ok (.iload 5, 2) := by decide +kernel
theorem dX3_keepLiterals_32 : decode cX3_keepLiterals 32 = .ok (.aload_n 0, 1) := by decide +kernel
theorem dX3_keepLiterals_33 : decode cX3_keepLiterals 33 = .ok (.getfield 17, 3) := by decide +kernel
theorem dX3_keepLiterals_36 : decode cX3_keepLiterals 36 = .ok (.arraylength, 1) := by decide +kernel
theorem dX3_keepLiterals_37 : decode cX3_keepLiterals 37 = .ok (.if_icmp .ge 95, 3) := by decide +kernel
theorem dX3_keepLiterals_40 : decode cX3_keepLiterals 40 = .ok (.aload_n 1, 1) := by decide +kernel
theorem dX3_keepLiterals_41 : decode cX3_keepLiterals 41 = .ok (.getfield 36, 3) := by decide +kernel
theorem dX3_keepLiterals_44 : decode cX3_keepLiterals 44 = .ok (.ifCond .eq 16, 3) := by decide +kernel
theorem dX3_keepLiterals_47 : decode cX3_keepLiterals 47 = .ok (.aload_n 1, 1) := by decide +kernel
theorem dX3_keepLiterals_48 : decode cX3_keepLiterals 48 = .ok (.getfield 72, 3) := by decide +kernel
theorem dX3_keepLiterals_51 : decode cX3_keepLiterals 51 = .ok (.iload 5, 2) := by decide +kernel
theorem dX3_keepLiterals_53 : decode cX3_keepLiterals 53 = .ok (.iaload, 1) := by decide +kernel
theorem dX3_keepLiterals_54 : decode cX3_keepLiterals 54 = .ok (.invokestatic 76, 3) := by decide +kernel
theorem dX3_keepLiterals_57 : decode cX3_keepLiterals 57 = .ok (.goto 10, 3) := by decide +kernel
theorem dX3_keepLiterals_60 : decode cX3_keepLiterals 60 = .ok (.aload_n 1, 1) := by decide +kernel
theorem dX3_keepLiterals_61 : decode cX3_keepLiterals 61 = .ok (.getfield 72, 3) := by decide +kernel
theorem dX3_keepLiterals_64 : decode cX3_keepLiterals 64 = .ok (.iload 5, 2) := by decide +kernel
theorem dX3_keepLiterals_66 : decode cX3_keepLiterals 66 = .ok (.iaload, 1) := by decide +kernel
theorem dX3_keepLiterals_67 : decode cX3_keepLiterals 67 = .ok (.istore 6, 2) := by decide +kernel
theorem dX3_keepLiterals_69 : decode cX3_keepLiterals 69 = .ok (.aload_n 0, 1) := by decide +kernel
theorem dX3_keepLiterals_70 : decode cX3_keepLiterals 70 = .ok (.getfield 17, 3) := by decide +kernel
theorem dX3_keepLiterals_73 : decode cX3_keepLiterals 73 = .ok (.iload 5, 2) := by decide +kernel
theorem dX3_keepLiterals_75 : decode cX3_keepLiterals 75 = .ok (.aaload, 1) := by decide +kernel
theorem dX3_keepLiterals_76 : decode cX3_keepLiterals 76 = .ok (.ifnull 50, 3) := by decide +kernel
theorem dX3_keepLiterals_79 : decode cX3_keepLiterals 79 = .ok (.aload_n 0, 1) := by decide +kernel
theorem dX3_keepLiterals_80 : decode cX3_keepLiterals 80 = .ok (.getfield 66, 3) := by decide +kernel
theorem dX3_keepLiterals_83 : decode cX3_keepLiterals 83 = .ok (.iconst 2, 1) := by decide +kernel
theorem dX3_keepLiterals_84 : decode cX3_keepLiterals 84 = .ok (.if_icmp .eq 12, 3) := by decide +kernel
theorem dX3_keepLiterals_87 : decode cX3_keepLiterals 87 = .ok (.aload_n 0, 1) := by decide +kernel
theorem dX3_keepLiterals_88 : decode cX3_keepLiterals 88 = .ok (.iload 6, 2) := by decide +kernel
theorem dX3_keepLiterals_90 : decode cX3_keepLiterals 90 = .ok (.invokevirtual 80, 3) := by decide +kernel
theorem dX3_keepLiterals_93 : decode cX3_keepLiterals 93 = .ok (.ifCond .ne 33, 3) := by decide +kernel
theorem dX3_keepLiterals_96 : decode cX3_keepLiterals 96 = .ok (.aload_n 0, 1) := by decide +kernel
theorem dX3_keepLiterals_97 : decode cX3_keepLiterals 97 = .ok (.getfield 17, 3) := by decide +kernel
theorem dX3_keepLiterals_100 : decode cX3_keepLiterals 100 = .ok (.iload 5, 2) := by decide +kernel
theorem dX3_keepLiterals_102 : decode cX3_keepLiterals 102 = .ok (.aaload, 1) := by decide +kernel
theorem dX3_keepLiterals_103 : decode cX3_keepLiterals 103 = .ok (.iload 6, 2) := by decide +kernel
theorem dX3_keepLiterals_105 : decode cX3_keepLiterals 105 = .ok (.aload_n 2, 1) := by decide +kernel
theorem dX3_keepLiterals_106 : decode cX3_keepLiterals 106 = .ok (.iload 6, 2) := by decide +kernel
theorem dX3_keepLiterals_108 : decode cX3_keepLiterals 108 = .ok (.invokevirtual 84, 3) := by decide +kernel
theorem dX3_keepLiterals_111 : decode cX3_keepLiterals 111 = .ok (.lload_n 3, 1) := by decide +kernel
theorem dX3_keepLiterals_112 : decode cX3_keepLiterals 112 = .ok (.invokevirtual 90, 3) := by decide +kernel
theorem dX3_keepLiterals_115 : decode cX3_keepLiterals 115 = .ok (.aload_n 0, 1) := by decide +kernel
theorem dX3_keepLiterals_116 : decode cX3_keepLiterals 116 = .ok (.aload_n 0, 1) := by decide +kernel
theorem dX3_keepLiterals_117 : decode cX3_keepLiterals 117 = .ok (.getfield 17, 3) := by decide +kernel
theorem dX3_keepLiterals_120 : decode cX3_keepLiterals 120 = .ok (.iload 5, 2) := by decide +kernel
theorem dX3_keepLiterals_122 : decode cX3_keepLiterals 122 = .ok (.aaload, 1) := by decide +kernel
theorem dX3_keepLiterals_123 : decode cX3_keepLiterals 123 = .ok (.invokevirtual 94, 3) := by decide +kernel
theorem dX3_keepLiterals_126 : decode cX3_keepLiterals 126 = .ok (.iinc 5 1, 3) := by decide +kernel
theorem dX3_keepLiterals_129 : decode cX3_keepLiterals 129 = .ok (.goto (-118), 3) := by decide +kernel
theorem dX3_keepLiterals_132 : decode cX3_keepLiterals 132 = .ok (.return_, 1) := by decide +kernel
theorem dX3_settleContraries_0 : decode cX3_settleContraries 0 = .ok (.aload_n 0, 1) := by decide +kernel
theorem dX3_settleContraries_1 : decode cX3_settleContraries 1 = .ok (.getfield 66, 3) := by decide +kernel
theorem dX3_settleContraries_4 : decode cX3_settleContraries 4 = .ok (.ifCond .eq 12, 3) := by decide +kernel
theorem dX3_settleContraries_7 : decode cX3_settleContraries 7 = .ok (.aload_n 0, 1) := by decide +kernel
theorem dX3_settleContraries_8 : decode cX3_settleContraries 8 = .ok (.getfield 66, 3) := by decide +kernel
theorem dX3_settleContraries_11 : decode cX3_settleContraries 11 = .ok (.iconst 1, 1) := by decide +kernel
theorem dX3_settleContraries_12 : decode cX3_settleContraries 12 = .ok (.if_icmp .eq 4, 3) := by decide +kernel
theorem dX3_settleContraries_15 : decode cX3_settleContraries 15 = .ok (.return_, 1) := by decide +kernel
theorem dX3_settleContraries_16 : decode cX3_settleContraries 16 = .ok (.iconst 0, 1) := by decide +kernel
theorem dX3_settleContraries_17 : decode cX3_settleContraries 17 = .ok (.istore_n 1, 1) := by decide +kernel
theorem dX3_settleContraries_18 : decode cX3_settleContraries 18 = .ok (.iload_n 1, 1) := by decide +kernel
theorem dX3_settleContraries_19 : decode cX3_settleContraries 19 = .ok (.aload_n 0, 1) := by decide +kernel
theorem dX3_settleContraries_20 : decode cX3_settleContraries 20 = .ok (.getfield 98, 3) := by decide +kernel
theorem dX3_settleContraries_23 : decode cX3_settleContraries 23 = .ok (.if_icmp .ge 49, 3) := by decide +kernel
theorem dX3_settleContraries_26 : decode cX3_settleContraries 26 = .ok (.aload_n 0, 1) := by decide +kernel
theorem dX3_settleContraries_27 : decode cX3_settleContraries 27 = .ok (.iload_n 1, 1) := by decide +kernel
theorem dX3_settleContraries_28 : decode cX3_settleContraries 28 = .ok (.invokevirtual 99, 3) := by decide +kernel
theorem dX3_settleContraries_31 : decode cX3_settleContraries 31 = .ok (.astore_n 2, 1) := by decide +kernel
theorem dX3_settleContraries_32 : decode cX3_settleContraries 32 = .ok (.aload_n 2, 1) := by decide +kernel
theorem dX3_settleContraries_33 : decode cX3_settleContraries 33 = .ok (.ifnull 33, 3) := by decide +kernel
theorem dX3_settleContraries_36 : decode cX3_settleContraries 36 = .ok (.aload_n 0, 1) := by decide +kernel
theorem dX3_settleContraries_37 : decode cX3_settleContraries 37 = .ok (.aload_n 2, 1) := by decide +kernel
theorem dX3_settleContraries_38 : decode cX3_settleContraries 38 = .ok (.getfield 103, 3) := by decide +kernel
theorem dX3_settleContraries_41 : decode cX3_settleContraries 41 = .ok (.invokestatic 76, 3) := by decide +kernel
theorem dX3_settleContraries_44 : decode cX3_settleContraries 44 = .ok (.invokevirtual 80, 3) := by decide +kernel
theorem dX3_settleContraries_47 : decode cX3_settleContraries 47 = .ok (.ifCond .eq 19, 3) := by decide +kernel
theorem dX3_settleContraries_50 : decode cX3_settleContraries 50 = .ok (.aload_n 0, 1) := by decide +kernel
theorem dX3_settleContraries_51 : decode cX3_settleContraries 51 = .ok (.aload_n 0, 1) := by decide +kernel
theorem dX3_settleContraries_52 : decode cX3_settleContraries 52 = .ok (.getfield 66, 3) := by decide +kernel
theorem dX3_settleContraries_55 : decode cX3_settleContraries 55 = .ok (.ifCond .ne 7, 3) := by decide +kernel
theorem dX3_settleContraries_58 : decode cX3_settleContraries 58 = .ok (.iconst 4, 1) := by decide +kernel
theorem dX3_settleContraries_59 : decode cX3_settleContraries 59 = .ok (.goto 4, 3) := by decide +kernel
theorem dX3_settleContraries_62 : decode cX3_settleContraries 62 = .ok (.iconst 3, 1) := by decide +kernel
theorem dX3_settleContraries_63 : decode cX3_settleContraries 63 = .ok (.invokevirtual 106, 3) := by decide +kernel
theorem dX3_settleContraries_66 : decode cX3_settleContraries 66 = .ok (.iinc 1 1, 3) := by decide +kernel
theorem dX3_settleContraries_69 : decode cX3_settleContraries 69 = .ok (.goto (-51), 3) := by decide +kernel
theorem dX3_settleContraries_72 : decode cX3_settleContraries 72 = .ok (.return_, 1) := by decide +kernel
theorem dX4_init_0 : decode cX4_init 0 = .ok (.aload_n 0, 1) := by decide +kernel
theorem dX4_init_1 : decode cX4_init 1 = .ok (.invokespecial 3, 3) := by decide +kernel
theorem dX4_init_4 : decode cX4_init 4 = .ok (.aload_n 0, 1) := by decide +kernel
theorem dX4_init_5 : decode cX4_init 5 = .ok (.aload_n 1, 1) := by decide +kernel
theorem dX4_init_6 : decode cX4_init 6 = .ok (.putfield 9, 3) := by decide +kernel
theorem dX4_init_9 : decode cX4_init 9 = .ok (.return_, 1) := by decide +kernel
theorem dX4_make_0 : decode cX4_make 0 = .ok (.aload_n 0, 1) := by decide +kernel
theorem dX4_make_1 : decode cX4_make 1 = .ok (.lload 4, 2) := by decide +kernel
theorem dX4_make_3 : decode cX4_make 3 = .ok (.putfield 15, 3) := by decide +kernel
theorem dX4_make_6 : decode cX4_make 6 = .ok (.aload_n 0, 1) := by decide +kernel
theorem dX4_make_7 : decode cX4_make 7 = .ok (.lload_n 2, 1) := by decide +kernel
theorem dX4_make_8 : decode cX4_make 8 = .ok (.putfield 19, 3) := by decide +kernel
theorem dX4_make_11 : decode cX4_make 11 = .ok (.aload_n 0, 1) := by decide +kernel
theorem dX4_make_12 : decode cX4_make 12 = .ok (.iload_n 1, 1) := by decide +kernel
theorem dX4_make_13 : decode cX4_make 13 = .ok (.putfield 22, 3) := by decide +kernel
theorem dX4_make_16 : decode cX4_make 16 = .ok (.aload_n 0, 1) := by decide +kernel
theorem dX4_make_17 : decode cX4_make 17 = .ok (.aload_n 0, 1) := by decide +kernel
theorem dX4_make_18 : decode cX4_make 18 = .ok (.getfield 19, 3) := by decide +kernel
theorem dX4_make_21 : decode cX4_make 21 = .ok (.invokestatic 26, 3) := by decide +kernel
theorem dX4_make_24 : decode cX4_make 24 = .ok (.putfield 32, 3) := by decide +kernel
theorem dX4_make_27 : decode cX4_make 27 = .ok (.aload_n 0, 1) := by decide +kernel
theorem dX4_make_28 : decode cX4_make 28 = .ok (.iconst (-1), 1) := by decide +kernel
theorem dX4_make_29 : decode cX4_make 29 = .ok (.putfield 35, 3) := by decide +kernel
theorem dX4_make_32 : decode cX4_make 32 = .ok (.return_, 1) := by decide +kernel
theorem dX4_seek_0 : decode cX4_seek 0 = .ok (.aload_n 0, 1) := by decide +kernel
theorem dX4_seek_1 : decode cX4_seek 1 = .ok (.getfield 35, 3) := by decide +kernel
theorem dX4_seek_4 : decode cX4_seek 4 = .ok (.iload_n 1, 1) := by decide +kernel
theorem dX4_seek_5 : decode cX4_seek 5 = .ok (.if_icmp .ge 32, 3) := by decide +kernel
theorem dX4_seek_8 : decode cX4_seek 8 = .ok (.aload_n 0, 1) := by decide +kernel
theorem dX4_seek_9 : decode cX4_seek 9 = .ok (.aload_n 0, 1) := by decide +kernel
theorem dX4_seek_10 : decode cX4_seek 10 = .ok (.getfield 19, 3) := by decide +kernel
theorem dX4_seek_13 : decode cX4_seek 13 = .ok (.iload_n 1, 1) := by decide +kernel
theorem dX4_seek_14 : decode cX4_seek 14 = .ok (.invokestatic 38, 3) := by decide +kernel
theorem dX4_seek_17 : decode cX4_seek 17 = .ok (.putfield 35, 3) := by decide +kernel
theorem dX4_seek_20 : decode cX4_seek 20 = .ok (.aload_n 0, 1) := by decide +kernel
theorem dX4_seek_21 : decode cX4_seek 21 = .ok (.getfield 9, 3) := by decide +kernel
theorem dX4_seek_24 : decode cX4_seek 24 = .ok (.dup, 1) := by decide +kernel
theorem dX4_seek_25 : decode cX4_seek 25 = .ok (.getfield 42, 3) := by decide +kernel
theorem dX4_seek_28 : decode cX4_seek 28 = .ok (.aload_n 0, 1) := by decide +kernel
theorem dX4_seek_29 : decode cX4_seek 29 = .ok (.iload_n 1, 1) := by decide +kernel
theorem dX4_seek_30 : decode cX4_seek 30 = .ok (.invokevirtual 47, 3) := by decide +kernel
theorem dX4_seek_33 : decode cX4_seek 33 = .ok (.iadd, 1) := by decide +kernel
theorem dX4_seek_34 : decode cX4_seek 34 = .ok (.putfield 42, 3) := by decide +kernel
theorem dX4_seek_37 : decode cX4_seek 37 = .ok (.aload_n 0, 1) := by decide +kernel
theorem dX4_seek_38 : decode cX4_seek 38 = .ok (.getfield 35, 3) := by decide +kernel
theorem dX4_seek_41 : decode cX4_seek 41 = .ok (.ireturn, 1) := by decide +kernel
theorem dX4_cost_0 : decode cX4_cost 0 = .ok (.aload_n 0, 1) := by decide +kernel
theorem dX4_cost_1 : decode cX4_cost 1 = .ok (.getfield 22, 3) := by decide +kernel
theorem dX4_cost_4 : decode cX4_cost 4 = .ok (.iconst 1, 1) := by decide +kernel
theorem dX4_cost_5 : decode cX4_cost 5 = .ok (.iand, 1) := by decide +kernel
theorem dX4_cost_6 : decode cX4_cost 6 = .ok (.iconst 1, 1) := by decide +kernel
theorem dX4_cost_7 : decode cX4_cost 7 = .ok (.if_icmp .ne 7, 3) := by decide +kernel
theorem dX4_cost_10 : decode cX4_cost 10 = .ok (.iconst 1, 1) := by decide +kernel
theorem dX4_cost_11 : decode cX4_cost 11 = .ok (.goto 4, 3) := by decide +kernel
theorem dX4_cost_14 : decode cX4_cost 14 = .ok (.iconst 0, 1) := by decide +kernel
theorem dX4_cost_15 : decode cX4_cost 15 = .ok (.istore_n 2, 1) := by decide +kernel
theorem dX4_cost_16 : decode cX4_cost 16 = .ok (.iload_n 2, 1) := by decide +kernel
theorem dX4_cost_17 : decode cX4_cost 17 = .ok (.ifCond .ne 5, 3) := by decide +kernel
theorem dX4_cost_20 : decode cX4_cost 20 = .ok (.iconst 1, 1) := by decide +kernel
theorem dX4_cost_21 : decode cX4_cost 21 = .ok (.ireturn, 1) := by decide +kernel
theorem dX4_cost_22 : decode cX4_cost 22 = .ok (.aload_n 0, 1) := by decide +kernel
theorem dX4_cost_23 : decode cX4_cost 23 = .ok (.getfield 15, 3) := by decide +kernel
theorem dX4_cost_26 : decode cX4_cost 26 = .ok (.iload_n 1, 1) := by decide +kernel
theorem dX4_cost_27 : decode cX4_cost 27 = .ok (.lushr, 1) := by decide +kernel
theorem dX4_cost_28 : decode cX4_cost 28 = .ok (.invokestatic 26, 3) := by decide +kernel
theorem dX4_cost_31 : decode cX4_cost 31 = .ok (.aload_n 0, 1) := by decide +kernel
theorem dX4_cost_32 : decode cX4_cost 32 = .ok (.getfield 15, 3) := by decide +kernel
theorem dX4_cost_35 : decode cX4_cost 35 = .ok (.aload_n 0, 1) := by decide +kernel
theorem dX4_cost_36 : decode cX4_cost 36 = .ok (.getfield 35, 3) := by decide +kernel
theorem dX4_cost_39 : decode cX4_cost 39 = .ok (.lushr, 1) := by decide +kernel
theorem dX4_cost_40 : decode cX4_cost 40 = .ok (.invokestatic 26, 3) := by decide +kernel
theorem dX4_cost_43 : decode cX4_cost 43 = .ok (.isub, 1) := by decide +kernel
theorem dX4_cost_44 : decode cX4_cost 44 = .ok (.istore_n 3, 1) := by decide +kernel
theorem dX4_cost_45 : decode cX4_cost 45 = .ok (.iload_n 3, 1) := by decide +kernel
theorem dX4_cost_46 : decode cX4_cost 46 = .ok (.iconst 1, 1) := by decide +kernel
theorem dX4_cost_47 : decode cX4_cost 47 = .ok (.iadd, 1) := by decide +kernel
theorem dX4_cost_48 : decode cX4_cost 48 = .ok (.ireturn, 1) := by decide +kernel
theorem dX5_init_0 : decode cX5_init 0 = .ok (.aload_n 0, 1) := by decide +kernel
theorem dX5_init_1 : decode cX5_init 1 = .ok (.invokespecial 3, 3) := by decide +kernel
theorem dX5_init_4 : decode cX5_init 4 = .ok (.aload_n 0, 1) := by decide +kernel
theorem dX5_init_5 : decode cX5_init 5 = .ok (.iconst 5, 1) := by decide +kernel
theorem dX5_init_6 : decode cX5_init 6 = .ok (.anewarray 9, 3) := by decide +kernel
theorem dX5_init_9 : decode cX5_init 9 = .ok (.putfield 11, 3) := by decide +kernel
theorem dX5_init_12 : decode cX5_init 12 = .ok (.iconst 0, 1) := by decide +kernel
theorem dX5_init_13 : decode cX5_init 13 = .ok (.istore_n 1, 1) := by decide +kernel
theorem dX5_init_14 : decode cX5_init 14 = .ok (.iload_n 1, 1) := by decide +kernel
theorem dX5_init_15 : decode cX5_init 15 = .ok (.aload_n 0, 1) := by decide +kernel
theorem dX5_init_16 : decode cX5_init 16 = .ok (.getfield 11, 3) := by decide +kernel
theorem dX5_init_19 : decode cX5_init 19 = .ok (.arraylength, 1) := by decide +kernel
theorem dX5_init_20 : decode cX5_init 20 = .ok (.if_icmp .ge 22, 3) := by decide +kernel
theorem dX5_init_23 : decode cX5_init 23 = .ok (.aload_n 0, 1) := by decide +kernel
theorem dX5_init_24 : decode cX5_init 24 = .ok (.getfield 11, 3) := by decide +kernel
theorem dX5_init_27 : decode cX5_init 27 = .ok (.iload_n 1, 1) := by decide +kernel
theorem dX5_init_28 : decode cX5_init 28 = .ok (.new 9, 3) := by decide +kernel
theorem dX5_init_31 : decode cX5_init 31 = .ok (.dup, 1) := by decide +kernel
theorem dX5_init_32 : decode cX5_init 32 = .ok (.invokespecial 17, 3) := by decide +kernel
theorem dX5_init_35 : decode cX5_init 35 = .ok (.aastore, 1) := by decide +kernel
theorem dX5_init_36 : decode cX5_init 36 = .ok (.iinc 1 1, 3) := by decide +kernel
theorem dX5_init_39 : decode cX5_init 39 = .ok (.goto (-25), 3) := by decide +kernel
theorem dX5_init_42 : decode cX5_init 42 = .ok (.aload_n 0, 1) := by decide +kernel
theorem dX5_init_43 : decode cX5_init 43 = .ok (.iconst 0, 1) := by decide +kernel
theorem dX5_init_44 : decode cX5_init 44 = .ok (.putfield 18, 3) := by decide +kernel
theorem dX5_init_47 : decode cX5_init 47 = .ok (.return_, 1) := by decide +kernel
theorem dX5_restart_0 : decode cX5_restart 0 = .ok (.aload_n 0, 1) := by decide +kernel
theorem dX5_restart_1 : decode cX5_restart 1 = .ok (.getfield 22, 3) := by decide +kernel
theorem dX5_restart_4 : decode cX5_restart 4 = .ok (.istore_n 3, 1) := by decide +kernel
theorem dX5_restart_5 : decode cX5_restart 5 = .ok (.aload_n 0, 1) := by decide +kernel
theorem dX5_restart_6 : decode cX5_restart 6 = .ok (.iload_n 1, 1) := by decide +kernel
theorem dX5_restart_7 : decode cX5_restart 7 = .ok (.putfield 18, 3) := by decide +kernel
theorem dX5_restart_10 : decode cX5_restart 10 = .ok (.aload_n 0, 1) := by decide +kernel
theorem dX5_restart_11 : decode cX5_restart 11 = .ok (.iload_n 2, 1) := by decide +kernel
theorem dX5_restart_12 : decode cX5_restart 12 = .ok (.putfield 25, 3) := by decide +kernel
theorem dX5_restart_15 : decode cX5_restart 15 = .ok (.aload_n 0, 1) := by decide +kernel
theorem dX5_restart_16 : decode cX5_restart 16 = .ok (.iconst 0, 1) := by decide +kernel
theorem dX5_restart_17 : decode cX5_restart 17 = .ok (.putfield 22, 3) := by decide +kernel
theorem dX5_restart_20 : decode cX5_restart 20 = .ok (.iload_n 3, 1) := by decide +kernel
theorem dX5_restart_21 : decode cX5_restart 21 = .ok (.ireturn, 1) := by decide +kernel
theorem dX5_append_0 : decode cX5_append 0 = .ok (.aload_n 0, 1) := by decide +kernel
theorem dX5_append_1 : decode cX5_append 1 = .ok (.getfield 22, 3) := by decide +kernel
theorem dX5_append_4 : decode cX5_append 4 = .ok (.ifCond .lt 27, 3) := by decide +kernel
theorem dX5_append_7 : decode cX5_append 7 = .ok (.aload_n 0, 1) := by decide +kernel
theorem dX5_append_8 : decode cX5_append 8 = .ok (.getfield 22, 3) := by decide +kernel
theorem dX5_append_11 : decode cX5_append 11 = .ok (.aload_n 0, 1) := by decide +kernel
theorem dX5_append_12 : decode cX5_append 12 = .ok (.getfield 11, 3) := by decide +kernel
theorem dX5_append_15 : decode cX5_append 15 = .ok (.arraylength, 1) := by decide +kernel
theorem dX5_append_16 : decode cX5_append 16 = .ok (.if_icmp .ge 15, 3) := by decide +kernel
theorem dX5_append_19 : decode cX5_append 19 = .ok (.aload_n 0, 1) := by decide +kernel
theorem dX5_append_20 : decode cX5_append 20 = .ok (.getfield 11, 3) := by decide +kernel
theorem dX5_append_23 : decode cX5_append 23 = .ok (.aload_n 0, 1) := by decide +kernel
theorem dX5_append_24 : decode cX5_append 24 = .ok (.getfield 22, 3) := by decide +kernel
theorem dX5_append_27 : decode cX5_append 27 = .ok (.aaload, 1) := by decide +kernel
theorem dX5_append_28 : decode cX5_append 28 = .ok (.ifnonnull 5, 3) := by decide +kernel
theorem dX5_append_31 : decode cX5_append 31 = .ok (.iconst (-1), 1) := by decide +kernel
theorem dX5_append_32 : decode cX5_append 32 = .ok (.ireturn, 1) := by decide +kernel
theorem dX5_append_33 : decode cX5_append 33 = .ok (.aload_n 0, 1) := by decide +kernel
theorem dX5_append_34 : decode cX5_append 34 = .ok (.getfield 11, 3) := by decide +kernel
theorem dX5_append_37 : decode cX5_append 37 = .ok (.aload_n 0, 1) := by decide +kernel
theorem dX5_append_38 : decode cX5_append 38 = .ok (.getfield 22, 3) := by decide +kernel
theorem dX5_append_41 : decode cX5_append 41 = .ok (.aaload, 1) := by decide +kernel
theorem dX5_append_42 : decode cX5_append 42 = .ok (.iload_n 1, 1) := by decide +kernel
theorem dX5_append_43 : decode cX5_append 43 = .ok (.iload_n 2, 1) := by decide +kernel
theorem dX5_append_44 : decode cX5_append 44 = .ok (.iload_n 3, 1) := by decide +kernel
theorem dX5_append_45 : decode cX5_append 45 = .ok (.invokevirtual 28, 3) := by decide +kernel
theorem dX5_append_48 : decode cX5_append 48 = .ok (.aload_n 0, 1) := by decide +kernel
theorem dX5_append_49 : decode cX5_append 49 = .ok (.dup, 1) := by decide +kernel
theorem dX5_append_50 : decode cX5_append 50 = .ok (.getfield 22, 3) := by decide +kernel
theorem dX5_append_53 : decode cX5_append 53 = .ok (.iconst 1, 1) := by decide +kernel
theorem dX5_append_54 : decode cX5_append 54 = .ok (.iadd, 1) := by decide +kernel
theorem dX5_append_55 : decode cX5_append 55 = .ok (.putfield 22, 3) := by decide +kernel
theorem dX5_append_58 : decode cX5_append 58 = .ok (.aload_n 0, 1) := by decide +kernel
theorem dX5_append_59 : decode cX5_append 59 = .ok (.getfield 22, 3) := by decide +kernel
theorem dX5_append_62 : decode cX5_append 62 = .ok (.iconst 1, 1) := by decide +kernel
theorem dX5_append_63 : decode cX5_append 63 = .ok (.isub, 1) := by decide +kernel
theorem dX5_append_64 : decode cX5_append 64 = .ok (.ireturn, 1) := by decide +kernel
theorem dX5_toldAt_0 : decode cX5_toldAt 0 = .ok (.iload_n 1, 1) := by decide +kernel
theorem dX5_toldAt_1 : decode cX5_toldAt 1 = .ok (.ifCond .lt 29, 3) := by decide +kernel
theorem dX5_toldAt_4 : decode cX5_toldAt 4 = .ok (.iload_n 1, 1) := by decide +kernel
theorem dX5_toldAt_5 : decode cX5_toldAt 5 = .ok (.aload_n 0, 1) := by decide +kernel
theorem dX5_toldAt_6 : decode cX5_toldAt 6 = .ok (.getfield 22, 3) := by decide +kernel
theorem dX5_toldAt_9 : decode cX5_toldAt 9 = .ok (.if_icmp .ge 21, 3) := by decide +kernel
theorem dX5_toldAt_12 : decode cX5_toldAt 12 = .ok (.iload_n 1, 1) := by decide +kernel
theorem dX5_toldAt_13 : decode cX5_toldAt 13 = .ok (.aload_n 0, 1) := by decide +kernel
theorem dX5_toldAt_14 : decode cX5_toldAt 14 = .ok (.getfield 11, 3) := by decide +kernel
theorem dX5_toldAt_17 : decode cX5_toldAt 17 = .ok (.arraylength, 1) := by decide +kernel
theorem dX5_toldAt_18 : decode cX5_toldAt 18 = .ok (.if_icmp .ge 12, 3) := by decide +kernel
theorem dX5_toldAt_21 : decode cX5_toldAt 21 = .ok (.aload_n 0, 1) := by decide +kernel
theorem dX5_toldAt_22 : decode cX5_toldAt 22 = .ok (.getfield 11, 3) := by decide +kernel
theorem dX5_toldAt_25 : decode cX5_toldAt 25 = .ok (.iload_n 1, 1) := by decide +kernel
theorem dX5_toldAt_26 : decode cX5_toldAt 26 = .ok (.aaload, 1) := by decide +kernel
theorem dX5_toldAt_27 : decode cX5_toldAt 27 = .ok (.goto 4, 3) := by decide +kernel
theorem dX5_toldAt_30 : decode cX5_toldAt 30 = .ok (.aconst_null, 1) := by decide +kernel
theorem dX5_toldAt_31 : decode cX5_toldAt 31 = .ok (.areturn, 1) := by decide +kernel
theorem dX5_isTrueOf_0 : decode cX5_isTrueOf 0 = .ok (.iconst 0, 1) := by decide +kernel
theorem dX5_isTrueOf_1 : decode cX5_isTrueOf 1 = .ok (.istore_n 2, 1) := by decide +kernel
theorem dX5_isTrueOf_2 : decode cX5_isTrueOf 2 = .ok (.iconst 0, 1) := by decide +kernel
theorem dX5_isTrueOf_3 : decode cX5_isTrueOf 3 = .ok (.istore_n 3, 1) := by decide +kernel
theorem dX5_isTrueOf_4 : decode cX5_isTrueOf 4 = .ok (.iload_n 3, 1) := by decide +kernel
theorem dX5_isTrueOf_5 : decode cX5_isTrueOf 5 = .ok (.aload_n 0, 1) := by decide +kernel
theorem dX5_isTrueOf_6 : decode cX5_isTrueOf 6 = .ok (.getfield 22, 3) := by decide +kernel
theorem dX5_isTrueOf_9 : decode cX5_isTrueOf 9 = .ok (.if_icmp .ge 33, 3) := by decide +kernel
theorem dX5_isTrueOf_12 : decode cX5_isTrueOf 12 = .ok (.aload_n 0, 1) := by decide +kernel
theorem dX5_isTrueOf_13 : decode cX5_isTrueOf 13 = .ok (.iload_n 3, 1) := by decide +kernel
theorem dX5_isTrueOf_14 : decode cX5_isTrueOf 14 = .ok (.invokevirtual 32, 3) := by decide +kernel
theorem dX5_isTrueOf_17 : decode cX5_isTrueOf 17 = .ok (.astore 4, 2) := by decide +kernel
theorem dX5_isTrueOf_19 : decode cX5_isTrueOf 19 = .ok (.aload 4, 2) := by decide +kernel
theorem dX5_isTrueOf_21 : decode cX5_isTrueOf 21 = .ok (.ifnull 15, 3) := by decide +kernel
theorem dX5_isTrueOf_24 : decode cX5_isTrueOf 24 = .ok (.aload 4, 2) := by decide +kernel
theorem dX5_isTrueOf_26 : decode cX5_isTrueOf 26 = .ok (.iload_n 1, 1) := by decide +kernel
theorem dX5_isTrueOf_27 : decode cX5_isTrueOf 27 = .ok (.invokevirtual 36, 3) := by decide +kernel
theorem dX5_isTrueOf_30 : decode cX5_isTrueOf 30 = .ok (.ifCond .eq 6, 3) := by decide +kernel
theorem dX5_isTrueOf_33 : decode cX5_isTrueOf 33 = .ok (.iinc 2 1, 3) := by decide +kernel
theorem dX5_isTrueOf_36 : decode cX5_isTrueOf 36 = .ok (.iinc 3 1, 3) := by decide +kernel
theorem dX5_isTrueOf_39 : decode cX5_isTrueOf 39 = .ok (.goto (-35), 3) := by decide +kernel
theorem dX5_isTrueOf_42 : decode cX5_isTrueOf 42 = .ok (.iload_n 2, 1) := by decide +kernel
theorem dX5_isTrueOf_43 : decode cX5_isTrueOf 43 = .ok (.aload_n 0, 1) := by decide +kernel
theorem dX5_isTrueOf_44 : decode cX5_isTrueOf 44 = .ok (.getfield 22, 3) := by decide +kernel
theorem dX5_isTrueOf_47 : decode cX5_isTrueOf 47 = .ok (.aload_n 0, 1) := by decide +kernel
theorem dX5_isTrueOf_48 : decode cX5_isTrueOf 48 = .ok (.getfield 18, 3) := by decide +kernel
theorem dX5_isTrueOf_51 : decode cX5_isTrueOf 51 = .ok (.aload_n 0, 1) := by decide +kernel
theorem dX5_isTrueOf_52 : decode cX5_isTrueOf 52 = .ok (.getfield 25, 3) := by decide +kernel
theorem dX5_isTrueOf_55 : decode cX5_isTrueOf 55 = .ok (.invokestatic 40, 3) := by decide +kernel
theorem dX5_isTrueOf_58 : decode cX5_isTrueOf 58 = .ok (.ireturn, 1) := by decide +kernel
theorem dX6_init_0 : decode cX6_init 0 = .ok (.aload_n 0, 1) := by decide +kernel
theorem dX6_init_1 : decode cX6_init 1 = .ok (.invokespecial 3, 3) := by decide +kernel
theorem dX6_init_4 : decode cX6_init 4 = .ok (.aload_n 0, 1) := by decide +kernel
theorem dX6_init_5 : decode cX6_init 5 = .ok (.new 9, 3) := by decide +kernel
theorem dX6_init_8 : decode cX6_init 8 = .ok (.dup, 1) := by decide +kernel
theorem dX6_init_9 : decode cX6_init 9 = .ok (.invokespecial 11, 3) := by decide +kernel
theorem dX6_init_12 : decode cX6_init 12 = .ok (.putfield 12, 3) := by decide +kernel
theorem dX6_init_15 : decode cX6_init 15 = .ok (.aload_n 0, 1) := by decide +kernel
theorem dX6_init_16 : decode cX6_init 16 = .ok (.new 18, 3) := by decide +kernel
theorem dX6_init_19 : decode cX6_init 19 = .ok (.dup, 1) := by decide +kernel
theorem dX6_init_20 : decode cX6_init 20 = .ok (.aload_n 0, 1) := by decide +kernel
theorem dX6_init_21 : decode cX6_init 21 = .ok (.getfield 12, 3) := by decide +kernel
theorem dX6_init_24 : decode cX6_init 24 = .ok (.invokespecial 20, 3) := by decide +kernel
theorem dX6_init_27 : decode cX6_init 27 = .ok (.putfield 23, 3) := by decide +kernel
theorem dX6_init_30 : decode cX6_init 30 = .ok (.return_, 1) := by decide +kernel
theorem dX6_restart_0 : decode cX6_restart 0 = .ok (.aload_n 0, 1) := by decide +kernel
theorem dX6_restart_1 : decode cX6_restart 1 = .ok (.getfield 23, 3) := by decide +kernel
theorem dX6_restart_4 : decode cX6_restart 4 = .ok (.aload_n 1, 1) := by decide +kernel
theorem dX6_restart_5 : decode cX6_restart 5 = .ok (.aload_n 2, 1) := by decide +kernel
theorem dX6_restart_6 : decode cX6_restart 6 = .ok (.invokevirtual 27, 3) := by decide +kernel
theorem dX6_restart_9 : decode cX6_restart 9 = .ok (.aload_n 0, 1) := by decide +kernel
theorem dX6_restart_10 : decode cX6_restart 10 = .ok (.getfield 12, 3) := by decide +kernel
theorem dX6_restart_13 : decode cX6_restart 13 = .ok (.iconst 0, 1) := by decide +kernel
theorem dX6_restart_14 : decode cX6_restart 14 = .ok (.putfield 31, 3) := by decide +kernel
theorem dX6_restart_17 : decode cX6_restart 17 = .ok (.aload_n 0, 1) := by decide +kernel
theorem dX6_restart_18 : decode cX6_restart 18 = .ok (.iconst 1, 1) := by decide +kernel
theorem dX6_restart_19 : decode cX6_restart 19 = .ok (.putfield 35, 3) := by decide +kernel
theorem dX6_restart_22 : decode cX6_restart 22 = .ok (.aload_n 0, 1) := by decide +kernel
theorem dX6_restart_23 : decode cX6_restart 23 = .ok (.iconst (-1), 1) := by decide +kernel
theorem dX6_restart_24 : decode cX6_restart 24 = .ok (.putfield 39, 3) := by decide +kernel
theorem dX6_restart_27 : decode cX6_restart 27 = .ok (.aload_n 0, 1) := by decide +kernel
theorem dX6_restart_28 : decode cX6_restart 28 = .ok (.getfield 23, 3) := by decide +kernel
theorem dX6_restart_31 : decode cX6_restart 31 = .ok (.getfield 42, 3) := by decide +kernel
theorem dX6_restart_34 : decode cX6_restart 34 = .ok (.ireturn, 1) := by decide +kernel
theorem dX6_advance_0 : decode cX6_advance 0 = .ok (.iload_n 1, 1) := by decide +kernel
theorem dX6_advance_1 : decode cX6_advance 1 = .ok (.aload_n 0, 1) := by decide +kernel
theorem dX6_advance_2 : decode cX6_advance 2 = .ok (.getfield 39, 3) := by decide +kernel
theorem dX6_advance_5 : decode cX6_advance 5 = .ok (.iconst 1, 1) := by decide +kernel
theorem dX6_advance_6 : decode cX6_advance 6 = .ok (.iadd, 1) := by decide +kernel
theorem dX6_advance_7 : decode cX6_advance 7 = .ok (.invokestatic 45, 3) := by decide +kernel
theorem dX6_advance_10 : decode cX6_advance 10 = .ok (.istore_n 2, 1) := by decide +kernel
theorem dX6_advance_11 : decode cX6_advance 11 = .ok (.iload_n 2, 1) := by decide +kernel
theorem dX6_advance_12 : decode cX6_advance 12 = .ok (.bipush 40, 2) := by decide +kernel
theorem dX6_advance_14 : decode cX6_advance 14 = .ok (.if_icmp .lt 8, 3) := by decide +kernel
theorem dX6_advance_17 : decode cX6_advance 17 = .ok (.bipush 40, 2) := by decide +kernel
theorem dX6_advance_19 : decode cX6_advance 19 = .ok (.goto 12, 3) := by decide +kernel
theorem dX6_advance_22 : decode cX6_advance 22 = .ok (.aload_n 0, 1) := by decide +kernel
theorem dX6_advance_23 : decode cX6_advance 23 = .ok (.getfield 23, 3) := by decide +kernel
theorem dX6_advance_26 : decode cX6_advance 26 = .ok (.iload_n 2, 1) := by decide +kernel
theorem dX6_advance_27 : decode cX6_advance 27 = .ok (.iconst 0, 1) := by decide +kernel
theorem dX6_advance_28 : decode cX6_advance 28 = .ok (.invokevirtual 51, 3) := by decide +kernel
theorem dX6_advance_31 : decode cX6_advance 31 = .ok (.istore_n 3, 1) := by decide +kernel
theorem dX6_advance_32 : decode cX6_advance 32 = .ok (.iload_n 3, 1) := by decide +kernel
theorem dX6_advance_33 : decode cX6_advance 33 = .ok (.bipush 40, 2) := by decide +kernel
theorem dX6_advance_35 : decode cX6_advance 35 = .ok (.if_icmp .lt 5, 3) := by decide +kernel
theorem dX6_advance_38 : decode cX6_advance 38 = .ok (.iconst (-1), 1) := by decide +kernel
theorem dX6_advance_39 : decode cX6_advance 39 = .ok (.ireturn, 1) := by decide +kernel
theorem dX6_advance_40 : decode cX6_advance 40 = .ok (.aload_n 0, 1) := by decide +kernel
theorem dX6_advance_41 : decode cX6_advance 41 = .ok (.iload_n 3, 1) := by decide +kernel
theorem dX6_advance_42 : decode cX6_advance 42 = .ok (.putfield 39, 3) := by decide +kernel
theorem dX6_advance_45 : decode cX6_advance 45 = .ok (.iload_n 3, 1) := by decide +kernel
theorem dX6_advance_46 : decode cX6_advance 46 = .ok (.ireturn, 1) := by decide +kernel
theorem dX7_init_0 : decode cX7_init 0 = .ok (.aload_n 0, 1) := by decide +kernel
theorem dX7_init_1 : decode cX7_init 1 = .ok (.invokespecial 3, 3) := by decide +kernel
theorem dX7_init_4 : decode cX7_init 4 = .ok (.aload_n 0, 1) := by decide +kernel
theorem dX7_init_5 : decode cX7_init 5 = .ok (.bipush 40, 2) := by decide +kernel
theorem dX7_init_7 : decode cX7_init 7 = .ok (.newarray .int, 2) := by decide +kernel
theorem dX7_init_9 : decode cX7_init 9 = .ok (.putfield 9, 3) := by decide +kernel
theorem dX7_init_12 : decode cX7_init 12 = .ok (.aload_n 0, 1) := by decide +kernel
theorem dX7_init_13 : decode cX7_init 13 = .ok (.getfield 9, 3) := by decide +kernel
theorem dX7_init_16 : decode cX7_init 16 = .ok (.iconst (-1), 1) := by decide +kernel
theorem dX7_init_17 : decode cX7_init 17 = .ok (.invokestatic 15, 3) := by decide +kernel
theorem dX7_init_20 : decode cX7_init 20 = .ok (.return_, 1) := by decide +kernel
theorem dX7_wordsAt_0 : decode cX7_wordsAt 0 = .ok (.iload_n 1, 1) := by decide +kernel
theorem dX7_wordsAt_1 : decode cX7_wordsAt 1 = .ok (.ifCond .lt 21, 3) := by decide +kernel
theorem dX7_wordsAt_4 : decode cX7_wordsAt 4 = .ok (.iload_n 1, 1) := by decide +kernel
theorem dX7_wordsAt_5 : decode cX7_wordsAt 5 = .ok (.aload_n 0, 1) := by decide +kernel
theorem dX7_wordsAt_6 : decode cX7_wordsAt 6 = .ok (.getfield 9, 3) := by decide +kernel
theorem dX7_wordsAt_9 : decode cX7_wordsAt 9 = .ok (.arraylength, 1) := by decide +kernel
theorem dX7_wordsAt_10 : decode cX7_wordsAt 10 = .ok (.if_icmp .ge 12, 3) := by decide +kernel
theorem dX7_wordsAt_13 : decode cX7_wordsAt 13 = .ok (.aload_n 0, 1) := by decide +kernel
theorem dX7_wordsAt_14 : decode cX7_wordsAt 14 = .ok (.getfield 9, 3) := by decide +kernel
theorem dX7_wordsAt_17 : decode cX7_wordsAt 17 = .ok (.iload_n 1, 1) := by decide +kernel
theorem dX7_wordsAt_18 : decode cX7_wordsAt 18 = .ok (.iaload, 1) := by decide +kernel
theorem dX7_wordsAt_19 : decode cX7_wordsAt 19 = .ok (.goto 4, 3) := by decide +kernel
theorem dX7_wordsAt_22 : decode cX7_wordsAt 22 = .ok (.iconst (-1), 1) := by decide +kernel
theorem dX7_wordsAt_23 : decode cX7_wordsAt 23 = .ok (.ireturn, 1) := by decide +kernel
theorem dX7_replace_0 : decode cX7_replace 0 = .ok (.iload_n 1, 1) := by decide +kernel
theorem dX7_replace_1 : decode cX7_replace 1 = .ok (.ifCond .lt 12, 3) := by decide +kernel
theorem dX7_replace_4 : decode cX7_replace 4 = .ok (.iload_n 1, 1) := by decide +kernel
theorem dX7_replace_5 : decode cX7_replace 5 = .ok (.aload_n 0, 1) := by decide +kernel
theorem dX7_replace_6 : decode cX7_replace 6 = .ok (.getfield 9, 3) := by decide +kernel
theorem dX7_replace_9 : decode cX7_replace 9 = .ok (.arraylength, 1) := by decide +kernel
theorem dX7_replace_10 : decode cX7_replace 10 = .ok (.if_icmp .lt 5, 3) := by decide +kernel
theorem dX7_replace_13 : decode cX7_replace 13 = .ok (.iconst 0, 1) := by decide +kernel
theorem dX7_replace_14 : decode cX7_replace 14 = .ok (.ireturn, 1) := by decide +kernel
theorem dX7_replace_15 : decode cX7_replace 15 = .ok (.aload_n 0, 1) := by decide +kernel
theorem dX7_replace_16 : decode cX7_replace 16 = .ok (.getfield 9, 3) := by decide +kernel
theorem dX7_replace_19 : decode cX7_replace 19 = .ok (.iload_n 1, 1) := by decide +kernel
theorem dX7_replace_20 : decode cX7_replace 20 = .ok (.iaload, 1) := by decide +kernel
theorem dX7_replace_21 : decode cX7_replace 21 = .ok (.iconst (-1), 1) := by decide +kernel
theorem dX7_replace_22 : decode cX7_replace 22 = .ok (.if_icmp .eq 7, 3) := by decide +kernel
theorem dX7_replace_25 : decode cX7_replace 25 = .ok (.iconst 1, 1) := by decide +kernel
theorem dX7_replace_26 : decode cX7_replace 26 = .ok (.goto 4, 3) := by decide +kernel
theorem dX7_replace_29 : decode cX7_replace 29 = .ok (.iconst 0, 1) := by decide +kernel
theorem dX7_replace_30 : decode cX7_replace 30 = .ok (.istore_n 3, 1) := by decide +kernel
theorem dX7_replace_31 : decode cX7_replace 31 = .ok (.aload_n 0, 1) := by decide +kernel
theorem dX7_replace_32 : decode cX7_replace 32 = .ok (.getfield 9, 3) := by decide +kernel
theorem dX7_replace_35 : decode cX7_replace 35 = .ok (.iload_n 1, 1) := by decide +kernel
theorem dX7_replace_36 : decode cX7_replace 36 = .ok (.iload_n 2, 1) := by decide +kernel
theorem dX7_replace_37 : decode cX7_replace 37 = .ok (.iastore, 1) := by decide +kernel
theorem dX7_replace_38 : decode cX7_replace 38 = .ok (.iload_n 3, 1) := by decide +kernel
theorem dX7_replace_39 : decode cX7_replace 39 = .ok (.ireturn, 1) := by decide +kernel
theorem dX7_allThere_0 : decode cX7_allThere 0 = .ok (.lconst 0, 1) := by decide +kernel
theorem dX7_allThere_1 : decode cX7_allThere 1 = .ok (.lstore_n 1, 1) := by decide +kernel
theorem dX7_allThere_2 : decode cX7_allThere 2 = .ok (.iconst 0, 1) := by decide +kernel
theorem dX7_allThere_3 : decode cX7_allThere 3 = .ok (.istore_n 3, 1) := by decide +kernel
theorem dX7_allThere_4 : decode cX7_allThere 4 = .ok (.iload_n 3, 1) := by decide +kernel
theorem dX7_allThere_5 : decode cX7_allThere 5 = .ok (.aload_n 0, 1) := by decide +kernel
theorem dX7_allThere_6 : decode cX7_allThere 6 = .ok (.getfield 9, 3) := by decide +kernel
theorem dX7_allThere_9 : decode cX7_allThere 9 = .ok (.arraylength, 1) := by decide +kernel
theorem dX7_allThere_10 : decode cX7_allThere 10 = .ok (.if_icmp .ge 25, 3) := by decide +kernel
theorem dX7_allThere_13 : decode cX7_allThere 13 = .ok (.aload_n 0, 1) := by decide +kernel
theorem dX7_allThere_14 : decode cX7_allThere 14 = .ok (.getfield 9, 3) := by decide +kernel
theorem dX7_allThere_17 : decode cX7_allThere 17 = .ok (.iload_n 3, 1) := by decide +kernel
theorem dX7_allThere_18 : decode cX7_allThere 18 = .ok (.iaload, 1) := by decide +kernel
theorem dX7_allThere_19 : decode cX7_allThere 19 = .ok (.iconst (-1), 1) := by decide +kernel
theorem dX7_allThere_20 : decode cX7_allThere 20 = .ok (.if_icmp .eq 9, 3) := by decide +kernel
theorem dX7_allThere_23 : decode cX7_allThere 23 = .ok (.lload_n 1, 1) := by decide +kernel
theorem dX7_allThere_24 : decode cX7_allThere 24 = .ok (.lconst 1, 1) := by decide +kernel
theorem dX7_allThere_25 : decode cX7_allThere 25 = .ok (.iload_n 3, 1) := by decide +kernel
theorem dX7_allThere_26 : decode cX7_allThere 26 = .ok (.lshl, 1) := by decide +kernel
theorem dX7_allThere_27 : decode cX7_allThere 27 = .ok (.lor, 1) := by decide +kernel
theorem dX7_allThere_28 : decode cX7_allThere 28 = .ok (.lstore_n 1, 1) := by decide +kernel
theorem dX7_allThere_29 : decode cX7_allThere 29 = .ok (.iinc 3 1, 3) := by decide +kernel
theorem dX7_allThere_32 : decode cX7_allThere 32 = .ok (.goto (-28), 3) := by decide +kernel
theorem dX7_allThere_35 : decode cX7_allThere 35 = .ok (.lload_n 1, 1) := by decide +kernel
theorem dX7_allThere_36 : decode cX7_allThere 36 = .ok (.lreturn, 1) := by decide +kernel
theorem dX7_truthsOf_0 : decode cX7_truthsOf 0 = .ok (.lconst 0, 1) := by decide +kernel
theorem dX7_truthsOf_1 : decode cX7_truthsOf 1 = .ok (.lstore_n 2, 1) := by decide +kernel
theorem dX7_truthsOf_2 : decode cX7_truthsOf 2 = .ok (.iconst 0, 1) := by decide +kernel
theorem dX7_truthsOf_3 : decode cX7_truthsOf 3 = .ok (.istore 4, 2) := by decide +kernel
theorem dX7_truthsOf_5 : decode cX7_truthsOf 5 = .ok (.iload 4, 2) := by decide +kernel
theorem dX7_truthsOf_7 : decode cX7_truthsOf 7 = .ok (.aload_n 0, 1) := by decide +kernel
theorem dX7_truthsOf_8 : decode cX7_truthsOf 8 = .ok (.getfield 9, 3) := by decide +kernel
theorem dX7_truthsOf_11 : decode cX7_truthsOf 11 = .ok (.arraylength, 1) := by decide +kernel
theorem dX7_truthsOf_12 : decode cX7_truthsOf 12 = .ok (.if_icmp .ge 41, 3) := by decide +kernel
theorem dX7_truthsOf_15 : decode cX7_truthsOf 15 = .ok (.aload_n 0, 1) := by decide +kernel
theorem dX7_truthsOf_16 : decode cX7_truthsOf 16 = .ok (.getfield 9, 3) := by decide +kernel
theorem dX7_truthsOf_19 : decode cX7_truthsOf 19 = .ok (.iload 4, 2) := by decide +kernel
theorem dX7_truthsOf_21 : decode cX7_truthsOf 21 = .ok (.iaload, 1) := by decide +kernel
theorem dX7_truthsOf_22 : decode cX7_truthsOf 22 = .ok (.iconst (-1), 1) := by decide +kernel
theorem dX7_truthsOf_23 : decode cX7_truthsOf 23 = .ok (.if_icmp .eq 24, 3) := by decide +kernel
theorem dX7_truthsOf_26 : decode cX7_truthsOf 26 = .ok (.iload_n 1, 1) := by decide +kernel
theorem dX7_truthsOf_27 : decode cX7_truthsOf 27 = .ok (.aload_n 0, 1) := by decide +kernel
theorem dX7_truthsOf_28 : decode cX7_truthsOf 28 = .ok (.getfield 9, 3) := by decide +kernel
theorem dX7_truthsOf_31 : decode cX7_truthsOf 31 = .ok (.iload 4, 2) := by decide +kernel
theorem dX7_truthsOf_33 : decode cX7_truthsOf 33 = .ok (.iaload, 1) := by decide +kernel
theorem dX7_truthsOf_34 : decode cX7_truthsOf 34 = .ok (.invokestatic 21, 3) := by decide +kernel
theorem dX7_truthsOf_37 : decode cX7_truthsOf 37 = .ok (.ifCond .eq 10, 3) := by decide +kernel
theorem dX7_truthsOf_40 : decode cX7_truthsOf 40 = .ok (.lload_n 2, 1) := by decide +kernel
theorem dX7_truthsOf_41 : decode cX7_truthsOf 41 = .ok (.lconst 1, 1) := by decide +kernel
theorem dX7_truthsOf_42 : decode cX7_truthsOf 42 = .ok (.iload 4, 2) := by decide +kernel
theorem dX7_truthsOf_44 : decode cX7_truthsOf 44 = .ok (.lshl, 1) := by decide +kernel
theorem dX7_truthsOf_45 : decode cX7_truthsOf 45 = .ok (.lor, 1) := by decide +kernel
theorem dX7_truthsOf_46 : decode cX7_truthsOf 46 = .ok (.lstore_n 2, 1) := by decide +kernel
theorem dX7_truthsOf_47 : decode cX7_truthsOf 47 = .ok (.iinc 4 1, 3) := by decide +kernel
theorem dX7_truthsOf_50 : decode cX7_truthsOf 50 = .ok (.goto (-45), 3) := by decide +kernel
theorem dX7_truthsOf_53 : decode cX7_truthsOf 53 = .ok (.lload_n 2, 1) := by decide +kernel
theorem dX7_truthsOf_54 : decode cX7_truthsOf 54 = .ok (.lreturn, 1) := by decide +kernel
theorem dX8_init_0 : decode cX8_init 0 = .ok (.aload_n 0, 1) := by decide +kernel
theorem dX8_init_1 : decode cX8_init 1 = .ok (.invokespecial 1, 3) := by decide +kernel
theorem dX8_init_4 : decode cX8_init 4 = .ok (.return_, 1) := by decide +kernel
theorem dX9_init_0 : decode cX9_init 0 = .ok (.aload_n 0, 1) := by decide +kernel
theorem dX9_init_1 : decode cX9_init 1 = .ok (.invokespecial 3, 3) := by decide +kernel
theorem dX9_init_4 : decode cX9_init 4 = .ok (.aload_n 0, 1) := by decide +kernel
theorem dX9_init_5 : decode cX9_init 5 = .ok (.bipush 6, 2) := by decide +kernel
theorem dX9_init_7 : decode cX9_init 7 = .ok (.newarray .int, 2) := by decide +kernel
theorem dX9_init_9 : decode cX9_init 9 = .ok (.putfield 9, 3) := by decide +kernel
theorem dX9_init_12 : decode cX9_init 12 = .ok (.return_, 1) := by decide +kernel
theorem dX9_restart_0 : decode cX9_restart 0 = .ok (.aload_n 0, 1) := by decide +kernel
theorem dX9_restart_1 : decode cX9_restart 1 = .ok (.iload_n 1, 1) := by decide +kernel
theorem dX9_restart_2 : decode cX9_restart 2 = .ok (.putfield 15, 3) := by decide +kernel
theorem dX9_restart_5 : decode cX9_restart 5 = .ok (.aload_n 0, 1) := by decide +kernel
theorem dX9_restart_6 : decode cX9_restart 6 = .ok (.iload_n 2, 1) := by decide +kernel
theorem dX9_restart_7 : decode cX9_restart 7 = .ok (.putfield 19, 3) := by decide +kernel
theorem dX9_restart_10 : decode cX9_restart 10 = .ok (.aload_n 0, 1) := by decide +kernel
theorem dX9_restart_11 : decode cX9_restart 11 = .ok (.iload_n 3, 1) := by decide +kernel
theorem dX9_restart_12 : decode cX9_restart 12 = .ok (.putfield 22, 3) := by decide +kernel
theorem dX9_restart_15 : decode cX9_restart 15 = .ok (.aload_n 0, 1) := by decide +kernel
theorem dX9_restart_16 : decode cX9_restart 16 = .ok (.iconst 0, 1) := by decide +kernel
theorem dX9_restart_17 : decode cX9_restart 17 = .ok (.putfield 26, 3) := by decide +kernel
theorem dX9_restart_20 : decode cX9_restart 20 = .ok (.return_, 1) := by decide +kernel
theorem dX9_append_0 : decode cX9_append 0 = .ok (.aload_n 0, 1) := by decide +kernel
theorem dX9_append_1 : decode cX9_append 1 = .ok (.getfield 26, 3) := by decide +kernel
theorem dX9_append_4 : decode cX9_append 4 = .ok (.ifCond .lt 15, 3) := by decide +kernel
theorem dX9_append_7 : decode cX9_append 7 = .ok (.aload_n 0, 1) := by decide +kernel
theorem dX9_append_8 : decode cX9_append 8 = .ok (.getfield 26, 3) := by decide +kernel
theorem dX9_append_11 : decode cX9_append 11 = .ok (.aload_n 0, 1) := by decide +kernel
theorem dX9_append_12 : decode cX9_append 12 = .ok (.getfield 9, 3) := by decide +kernel
theorem dX9_append_15 : decode cX9_append 15 = .ok (.arraylength, 1) := by decide +kernel
theorem dX9_append_16 : decode cX9_append 16 = .ok (.if_icmp .lt 5, 3) := by decide +kernel
theorem dX9_append_19 : decode cX9_append 19 = .ok (.iconst 0, 1) := by decide +kernel
theorem dX9_append_20 : decode cX9_append 20 = .ok (.ireturn, 1) := by decide +kernel
theorem dX9_append_21 : decode cX9_append 21 = .ok (.aload_n 0, 1) := by decide +kernel
theorem dX9_append_22 : decode cX9_append 22 = .ok (.getfield 9, 3) := by decide +kernel
theorem dX9_append_25 : decode cX9_append 25 = .ok (.aload_n 0, 1) := by decide +kernel
theorem dX9_append_26 : decode cX9_append 26 = .ok (.getfield 26, 3) := by decide +kernel
theorem dX9_append_29 : decode cX9_append 29 = .ok (.iload_n 1, 1) := by decide +kernel
theorem dX9_append_30 : decode cX9_append 30 = .ok (.iastore, 1) := by decide +kernel
theorem dX9_append_31 : decode cX9_append 31 = .ok (.aload_n 0, 1) := by decide +kernel
theorem dX9_append_32 : decode cX9_append 32 = .ok (.dup, 1) := by decide +kernel
theorem dX9_append_33 : decode cX9_append 33 = .ok (.getfield 26, 3) := by decide +kernel
theorem dX9_append_36 : decode cX9_append 36 = .ok (.iconst 1, 1) := by decide +kernel
theorem dX9_append_37 : decode cX9_append 37 = .ok (.iadd, 1) := by decide +kernel
theorem dX9_append_38 : decode cX9_append 38 = .ok (.putfield 26, 3) := by decide +kernel
theorem dX9_append_41 : decode cX9_append 41 = .ok (.iconst 1, 1) := by decide +kernel
theorem dX9_append_42 : decode cX9_append 42 = .ok (.ireturn, 1) := by decide +kernel
theorem dX9_isTrueOf_0 : decode cX9_isTrueOf 0 = .ok (.iconst 0, 1) := by decide +kernel
theorem dX9_isTrueOf_1 : decode cX9_isTrueOf 1 = .ok (.istore_n 2, 1) := by decide +kernel
theorem dX9_isTrueOf_2 : decode cX9_isTrueOf 2 = .ok (.iconst 0, 1) := by decide +kernel
theorem dX9_isTrueOf_3 : decode cX9_isTrueOf 3 = .ok (.istore_n 3, 1) := by decide +kernel
theorem dX9_isTrueOf_4 : decode cX9_isTrueOf 4 = .ok (.iload_n 3, 1) := by decide +kernel
theorem dX9_isTrueOf_5 : decode cX9_isTrueOf 5 = .ok (.aload_n 0, 1) := by decide +kernel
theorem dX9_isTrueOf_6 : decode cX9_isTrueOf 6 = .ok (.getfield 26, 3) := by decide +kernel
theorem dX9_isTrueOf_9 : decode cX9_isTrueOf 9 = .ok (.if_icmp .ge 34, 3) := by decide +kernel
theorem dX9_isTrueOf_12 : decode cX9_isTrueOf 12 = .ok (.iload_n 3, 1) := by decide +kernel
theorem dX9_isTrueOf_13 : decode cX9_isTrueOf 13 = .ok (.aload_n 0, 1) := by decide +kernel
theorem dX9_isTrueOf_14 : decode cX9_isTrueOf 14 = .ok (.getfield 9, 3) := by decide +kernel
theorem dX9_isTrueOf_17 : decode cX9_isTrueOf 17 = .ok (.arraylength, 1) := by decide +kernel
theorem dX9_isTrueOf_18 : decode cX9_isTrueOf 18 = .ok (.if_icmp .ge 25, 3) := by decide +kernel
theorem dX9_isTrueOf_21 : decode cX9_isTrueOf 21 = .ok (.aload_n 0, 1) := by decide +kernel
theorem dX9_isTrueOf_22 : decode cX9_isTrueOf 22 = .ok (.getfield 9, 3) := by decide +kernel
theorem dX9_isTrueOf_25 : decode cX9_isTrueOf 25 = .ok (.iload_n 3, 1) := by decide +kernel
theorem dX9_isTrueOf_26 : decode cX9_isTrueOf 26 = .ok (.iaload, 1) := by decide +kernel
theorem dX9_isTrueOf_27 : decode cX9_isTrueOf 27 = .ok (.iload_n 1, 1) := by decide +kernel
theorem dX9_isTrueOf_28 : decode cX9_isTrueOf 28 = .ok (.invokestatic 29, 3) := by decide +kernel
theorem dX9_isTrueOf_31 : decode cX9_isTrueOf 31 = .ok (.ifCond .eq 6, 3) := by decide +kernel
theorem dX9_isTrueOf_34 : decode cX9_isTrueOf 34 = .ok (.iinc 2 1, 3) := by decide +kernel
theorem dX9_isTrueOf_37 : decode cX9_isTrueOf 37 = .ok (.iinc 3 1, 3) := by decide +kernel
theorem dX9_isTrueOf_40 : decode cX9_isTrueOf 40 = .ok (.goto (-36), 3) := by decide +kernel
theorem dX9_isTrueOf_43 : decode cX9_isTrueOf 43 = .ok (.iload_n 2, 1) := by decide +kernel
theorem dX9_isTrueOf_44 : decode cX9_isTrueOf 44 = .ok (.aload_n 0, 1) := by decide +kernel
theorem dX9_isTrueOf_45 : decode cX9_isTrueOf 45 = .ok (.getfield 26, 3) := by decide +kernel
theorem dX9_isTrueOf_48 : decode cX9_isTrueOf 48 = .ok (.aload_n 0, 1) := by decide +kernel
theorem dX9_isTrueOf_49 : decode cX9_isTrueOf 49 = .ok (.getfield 15, 3) := by decide +kernel
theorem dX9_isTrueOf_52 : decode cX9_isTrueOf 52 = .ok (.aload_n 0, 1) := by decide +kernel
theorem dX9_isTrueOf_53 : decode cX9_isTrueOf 53 = .ok (.getfield 19, 3) := by decide +kernel
theorem dX9_isTrueOf_56 : decode cX9_isTrueOf 56 = .ok (.invokestatic 33, 3) := by decide +kernel
theorem dX9_isTrueOf_59 : decode cX9_isTrueOf 59 = .ok (.aload_n 0, 1) := by decide +kernel
theorem dX9_isTrueOf_60 : decode cX9_isTrueOf 60 = .ok (.getfield 22, 3) := by decide +kernel
theorem dX9_isTrueOf_63 : decode cX9_isTrueOf 63 = .ok (.if_icmp .eq 7, 3) := by decide +kernel
theorem dX9_isTrueOf_66 : decode cX9_isTrueOf 66 = .ok (.iconst 1, 1) := by decide +kernel
theorem dX9_isTrueOf_67 : decode cX9_isTrueOf 67 = .ok (.goto 4, 3) := by decide +kernel
theorem dX9_isTrueOf_70 : decode cX9_isTrueOf 70 = .ok (.iconst 0, 1) := by decide +kernel
theorem dX9_isTrueOf_71 : decode cX9_isTrueOf 71 = .ok (.ireturn, 1) := by decide +kernel
end
section
/-! THE LAYER: cells by logical names, ints as Int, one judgement At, a rule an instruction -/
abbrev Idn := Nat × Nat
abbrev AV := Int ⊕ (Int ⊕ Option Idn)
abbrev vi (z : Int) : AV := .inl z
abbrev vl (z : Int) : AV := .inr (.inl z)
abbrev vr (o : Option Idn) : AV := .inr (.inr o)
def tv (ad : Idn → Nat) (v : AV) : Value := match v with
  | .inl z => .int (Int32.ofInt z)
  | .inr (.inl z) => .long (Int64.ofInt z)
  | .inr (.inr o) => va_rf (o.map ad)
def catA (v : AV) : Nat := match v with
  | .inr (.inl _) => 2
  | _ => 1
theorem tv_cat (ad : Idn → Nat) (v : AV) : (tv ad v).category = catA v := by
  rcases v with z | z | _ | o <;> rfl
/-- a cell: an object, an array of ints or booleans, of references, of longs -/
abbrev AC := (Nat × List AV) ⊕ ((Nat × Nat × (Nat → Int)) ⊕ ((Nat × Nat × (Nat → Option Idn)) ⊕ (Nat × Nat × (Nat → Int))))
def te (cy : Nat → ClassId) (ad : Idn → Nat) (x : AC) : va_E := match x with
  | .inl (ci, fs) => .inr (ci, fs.map (tv ad))
  | .inr (.inl (t, n, g)) => .inl (cy t, n, .inl (fun j => Int32.ofInt (g j)))
  | .inr (.inr (.inl (t, n, g))) => .inl (cy t, n, .inr (.inr (.inr (.inr (fun j => (g j).map ad)))))
  | .inr (.inr (.inr (t, n, g))) => .inl (cy t, n, .inr (.inl (fun j => Int64.ofInt (g j))))
abbrev ST := (Nat → Nat → Nat → Int) × (Nat → Nat → Nat → Nat) × (Nat → Nat → Nat → Int) × (Nat → Nat → Nat → Option Nat)
abbrev iv (S : ST) : Nat → Nat → Nat → Int := S.1
abbrev jv (S : ST) : Nat → Nat → Nat → Nat := S.2.1
abbrev ai (S : ST) : Nat → Nat → Nat → Int := S.2.2.1
abbrev ar (S : ST) : Nat → Nat → Nat → Option Nat := S.2.2.2
def up3 {α : Type} (f : Nat → Nat → Nat → α) (t k x : Nat) (v : α) : Nat → Nat → Nat → α := fun t' k' x' => if t' = t ∧ k' = k ∧ x' = x then v else f t' k' x'
theorem up3_ne {α : Type} {f : Nat → Nat → Nat → α} {t k x t' : Nat} {v : α} (h : ¬ t' = t) : up3 f t k x v t' = f t' := by
  funext a b
  simp [up3, h]
theorem up3_ne2 {α : Type} {f : Nat → Nat → Nat → α} {t k x t' k' : Nat} {v : α} (h : ¬ k' = k) : up3 f t k x v t' k' = f t' k' := by
  funext b
  simp [up3, h]
def upF {α : Type} (f : Nat → α) (k : Nat) (v : α) : Nat → α := fun k' => if k' = k then v else f k'
def si (S : ST) (t k x : Nat) (v : Int) : ST := (up3 S.1 t k x v, S.2)
def sj (S : ST) (t k x : Nat) (v : Nat) : ST := (S.1, up3 S.2.1 t k x v, S.2.2)
def sa (S : ST) (t x j : Nat) (v : Int) : ST := (S.1, S.2.1, up3 S.2.2.1 t x j v, S.2.2.2)
def sr (S : ST) (t x j : Nat) (v : Option Nat) : ST := (S.1, S.2.1, S.2.2.1, up3 S.2.2.2 t x j v)
/-- what the cell of a name holds -/
def hp (S : ST) (i : Idn) : AC :=
  if i.1 = 0 then .inl (8, [vr (some (1, 0)), vr (some (3, 0)), vr (some (8, 0)), vr (some (15, 0))]) else
  if i.1 = 1 then .inl (5, [vr (some (2, 0))]) else
  if i.1 = 2 then .inr (.inl (0, 40, ai S 2 i.2)) else
  if i.1 = 3 then .inl (3, [vr (some (4, 0)), vi (iv S 3 1 i.2), vi (iv S 3 2 i.2), vi (iv S 3 3 i.2)]) else
  if i.1 = 4 then .inr (.inr (.inl (5, 5, fun j => some (5, j)))) else
  if i.1 = 5 then .inl (7, [vr (some (6, i.2)), vi (iv S 5 1 i.2), vi (iv S 5 2 i.2), vi (iv S 5 3 i.2), vi (iv S 5 4 i.2)]) else
  if i.1 = 6 then .inr (.inl (0, 6, ai S 6 i.2)) else
  if i.1 = 7 then .inl (6, [vi (iv S 7 0 i.2)]) else
  if i.1 = 8 then .inl (0, [vr (some (9, i.2)), vi (iv S 8 1 i.2), vi (iv S 8 2 i.2), vi (iv S 8 3 i.2), vl (jv S 8 4 i.2 : Nat), vi (iv S 8 5 i.2), vi (iv S 8 6 i.2), vi (iv S 8 7 i.2), vr (some (10, i.2))]) else
  if i.1 = 9 then .inr (.inr (.inl (2, 6, fun j => (ar S 9 i.2 j).map (fun v => ((11, v) : Idn))))) else
  if i.1 = 10 then .inr (.inr (.inl (3, 5, fun j => some (11, 5 * i.2 + j)))) else
  if i.1 = 11 then .inl (1, [vr (some (12, i.2)), vi (iv S 11 1 i.2), vi (iv S 11 2 i.2), vi (iv S 11 3 i.2), vl (jv S 11 4 i.2 : Nat), vi (i.2 % 5 : Nat), vi (iv S 11 6 i.2), vi (iv S 11 7 i.2), vr (some (13, i.2))]) else
  if i.1 = 12 then .inr (.inr (.inl (2, 6, fun j => (ar S 12 i.2 j).map (fun v => ((14, v) : Idn))))) else
  if i.1 = 13 then .inr (.inr (.inl (4, 6, fun j => some (14, 6 * i.2 + j)))) else
  if i.1 = 14 then .inl (2, [vi (iv S 14 0 i.2), vi (iv S 14 1 i.2), vi (iv S 14 2 i.2), vr (some (7, i.2 / 30)), vl (jv S 14 4 i.2 : Nat), vl (jv S 14 5 i.2 : Nat)]) else
  if i.1 = 15 then .inl (4, [vr (some (7, 1)), vr (some (8, 1)), vi (iv S 15 2 i.2), vi (iv S 15 3 i.2)]) else
  if i.1 = 20 then .inl (9, [vr (some (21, 0)), vr (some (21, 1)), vi (iv S 20 2 i.2), vi (iv S 20 3 i.2), vi (iv S 20 4 i.2), vr (some (21, 5)), vr (some (21, 6)), vr (some (21, 7)), vr (some (21, 8)), vr (some (21, 9)), vr (some (21, 10)), vr (some (21, 11)), vr (some (21, 12)), vr (some (21, 13)), vr (some (21, 14)), vi (iv S 20 15 i.2), vi (iv S 20 16 i.2), vi (iv S 20 17 i.2), vr (some (21, 18)), vi (iv S 20 19 i.2), vr (some (21, 20)), vr (some (21, 21)), vi (iv S 20 22 i.2), vi (iv S 20 23 i.2), vi (iv S 20 24 i.2), vr (some (21, 25)), vr (some (21, 26)), vr (some (21, 27)), vr (some (21, 28)), vr (some (21, 29)), vr (some (21, 30)), vi (iv S 20 31 i.2), vi (iv S 20 32 i.2), vi (iv S 20 33 i.2), vi (iv S 20 34 i.2)]) else
  if i.1 = 21 then .inr (.inl (if i.2 = 0 ∨ i.2 = 7 ∨ i.2 = 20 then 1 else 0, if i.2 < 2 ∨ i.2 = 20 ∨ i.2 = 21 then 40 else if i.2 = 9 ∨ i.2 = 13 ∨ i.2 = 28 ∨ i.2 = 29 then 30 else 5, ai S 21 i.2)) else
  if i.1 = 30 then .inr (.inr (.inr (6, 1, ai S 30 i.2))) else .inl (0, [])
theorem hp_0 (S : ST) : hp S (0, 0) = .inl (8, [vr (some (1, 0)), vr (some (3, 0)), vr (some (8, 0)), vr (some (15, 0))]) := rfl
theorem hp_1 (S : ST) : hp S (1, 0) = .inl (5, [vr (some (2, 0))]) := rfl
theorem hp_2 (S : ST) : hp S (2, 0) = .inr (.inl (0, 40, ai S 2 0)) := rfl
theorem hp_3 (S : ST) : hp S (3, 0) = .inl (3, [vr (some (4, 0)), vi (iv S 3 1 0), vi (iv S 3 2 0), vi (iv S 3 3 0)]) := rfl
theorem hp_4 (S : ST) : hp S (4, 0) = .inr (.inr (.inl (5, 5, fun j => some (5, j)))) := rfl
theorem hp_5 (S : ST) (x : Nat) : hp S (5, x) = .inl (7, [vr (some (6, x)), vi (iv S 5 1 x), vi (iv S 5 2 x), vi (iv S 5 3 x), vi (iv S 5 4 x)]) := rfl
theorem hp_6 (S : ST) (x : Nat) : hp S (6, x) = .inr (.inl (0, 6, ai S 6 x)) := rfl
theorem hp_7 (S : ST) (x : Nat) : hp S (7, x) = .inl (6, [vi (iv S 7 0 x)]) := rfl
theorem hp_8 (S : ST) (x : Nat) : hp S (8, x) = .inl (0, [vr (some (9, x)), vi (iv S 8 1 x), vi (iv S 8 2 x), vi (iv S 8 3 x), vl (jv S 8 4 x : Nat), vi (iv S 8 5 x), vi (iv S 8 6 x), vi (iv S 8 7 x), vr (some (10, x))]) := rfl
theorem hp_9 (S : ST) (x : Nat) : hp S (9, x) = .inr (.inr (.inl (2, 6, fun j => (ar S 9 x j).map (fun v => ((11, v) : Idn))))) := rfl
theorem hp_10 (S : ST) (x : Nat) : hp S (10, x) = .inr (.inr (.inl (3, 5, fun j => some (11, 5 * x + j)))) := rfl
theorem hp_11 (S : ST) (x : Nat) : hp S (11, x) = .inl (1, [vr (some (12, x)), vi (iv S 11 1 x), vi (iv S 11 2 x), vi (iv S 11 3 x), vl (jv S 11 4 x : Nat), vi (x % 5 : Nat), vi (iv S 11 6 x), vi (iv S 11 7 x), vr (some (13, x))]) := rfl
theorem hp_12 (S : ST) (x : Nat) : hp S (12, x) = .inr (.inr (.inl (2, 6, fun j => (ar S 12 x j).map (fun v => ((14, v) : Idn))))) := rfl
theorem hp_13 (S : ST) (x : Nat) : hp S (13, x) = .inr (.inr (.inl (4, 6, fun j => some (14, 6 * x + j)))) := rfl
theorem hp_14 (S : ST) (x : Nat) : hp S (14, x) = .inl (2, [vi (iv S 14 0 x), vi (iv S 14 1 x), vi (iv S 14 2 x), vr (some (7, x / 30)), vl (jv S 14 4 x : Nat), vl (jv S 14 5 x : Nat)]) := rfl
theorem hp_15 (S : ST) : hp S (15, 0) = .inl (4, [vr (some (7, 1)), vr (some (8, 1)), vi (iv S 15 2 0), vi (iv S 15 3 0)]) := rfl
theorem hp_20 (S : ST) : hp S (20, 0) = .inl (9, [vr (some (21, 0)), vr (some (21, 1)), vi (iv S 20 2 0), vi (iv S 20 3 0), vi (iv S 20 4 0), vr (some (21, 5)), vr (some (21, 6)), vr (some (21, 7)), vr (some (21, 8)), vr (some (21, 9)), vr (some (21, 10)), vr (some (21, 11)), vr (some (21, 12)), vr (some (21, 13)), vr (some (21, 14)), vi (iv S 20 15 0), vi (iv S 20 16 0), vi (iv S 20 17 0), vr (some (21, 18)), vi (iv S 20 19 0), vr (some (21, 20)), vr (some (21, 21)), vi (iv S 20 22 0), vi (iv S 20 23 0), vi (iv S 20 24 0), vr (some (21, 25)), vr (some (21, 26)), vr (some (21, 27)), vr (some (21, 28)), vr (some (21, 29)), vr (some (21, 30)), vi (iv S 20 31 0), vi (iv S 20 32 0), vi (iv S 20 33 0), vi (iv S 20 34 0)]) := rfl
theorem hp_21_0 (S : ST) : hp S (21, 0) = .inr (.inl (1, 40, ai S 21 0)) := rfl
theorem hp_21_1 (S : ST) : hp S (21, 1) = .inr (.inl (0, 40, ai S 21 1)) := rfl
theorem hp_21_5 (S : ST) : hp S (21, 5) = .inr (.inl (0, 5, ai S 21 5)) := rfl
theorem hp_21_6 (S : ST) : hp S (21, 6) = .inr (.inl (0, 5, ai S 21 6)) := rfl
theorem hp_21_7 (S : ST) : hp S (21, 7) = .inr (.inl (1, 5, ai S 21 7)) := rfl
theorem hp_21_8 (S : ST) : hp S (21, 8) = .inr (.inl (0, 5, ai S 21 8)) := rfl
theorem hp_21_9 (S : ST) : hp S (21, 9) = .inr (.inl (0, 30, ai S 21 9)) := rfl
theorem hp_21_10 (S : ST) : hp S (21, 10) = .inr (.inl (0, 5, ai S 21 10)) := rfl
theorem hp_21_11 (S : ST) : hp S (21, 11) = .inr (.inl (0, 5, ai S 21 11)) := rfl
theorem hp_21_12 (S : ST) : hp S (21, 12) = .inr (.inl (0, 5, ai S 21 12)) := rfl
theorem hp_21_13 (S : ST) : hp S (21, 13) = .inr (.inl (0, 30, ai S 21 13)) := rfl
theorem hp_21_14 (S : ST) : hp S (21, 14) = .inr (.inl (0, 5, ai S 21 14)) := rfl
theorem hp_21_18 (S : ST) : hp S (21, 18) = .inr (.inl (0, 5, ai S 21 18)) := rfl
theorem hp_21_20 (S : ST) : hp S (21, 20) = .inr (.inl (1, 40, ai S 21 20)) := rfl
theorem hp_21_21 (S : ST) : hp S (21, 21) = .inr (.inl (0, 40, ai S 21 21)) := rfl
theorem hp_21_25 (S : ST) : hp S (21, 25) = .inr (.inl (0, 5, ai S 21 25)) := rfl
theorem hp_21_26 (S : ST) : hp S (21, 26) = .inr (.inl (0, 5, ai S 21 26)) := rfl
theorem hp_21_27 (S : ST) : hp S (21, 27) = .inr (.inl (0, 5, ai S 21 27)) := rfl
theorem hp_21_28 (S : ST) : hp S (21, 28) = .inr (.inl (0, 30, ai S 21 28)) := rfl
theorem hp_21_29 (S : ST) : hp S (21, 29) = .inr (.inl (0, 30, ai S 21 29)) := rfl
theorem hp_21_30 (S : ST) : hp S (21, 30) = .inr (.inl (0, 5, ai S 21 30)) := rfl
theorem hp_30 (S : ST) : hp S (30, 0) = .inr (.inr (.inr (6, 1, ai S 30 0))) := rfl
def upI (f : Idn → AC) (i : Idn) (e : AC) : Idn → AC := fun j => if j = i then e else f j
theorem hs_3_1 (S : ST) (v : Int) : hp (si S 3 1 0 v) = upI (hp S) (3, 0) (.inl (3, [vr (some (4, 0)), vi v, vi (iv S 3 2 0), vi (iv S 3 3 0)])) := by
  funext j
  obtain ⟨t, y⟩ := j
  by_cases h : t = 3
  · subst h
    by_cases h2 : y = 0
    · subst h2
      simp [hp, upI, iv, jv, ai, ar, si, up3]
    · simp [hp, upI, iv, jv, ai, ar, si, up3, h2]
  · simp [hp, upI, iv, jv, ai, ar, si, up3, h]
theorem hs_3_2 (S : ST) (v : Int) : hp (si S 3 2 0 v) = upI (hp S) (3, 0) (.inl (3, [vr (some (4, 0)), vi (iv S 3 1 0), vi v, vi (iv S 3 3 0)])) := by
  funext j
  obtain ⟨t, y⟩ := j
  by_cases h : t = 3
  · subst h
    by_cases h2 : y = 0
    · subst h2
      simp [hp, upI, iv, jv, ai, ar, si, up3]
    · simp [hp, upI, iv, jv, ai, ar, si, up3, h2]
  · simp [hp, upI, iv, jv, ai, ar, si, up3, h]
theorem hs_3_3 (S : ST) (v : Int) : hp (si S 3 3 0 v) = upI (hp S) (3, 0) (.inl (3, [vr (some (4, 0)), vi (iv S 3 1 0), vi (iv S 3 2 0), vi v])) := by
  funext j
  obtain ⟨t, y⟩ := j
  by_cases h : t = 3
  · subst h
    by_cases h2 : y = 0
    · subst h2
      simp [hp, upI, iv, jv, ai, ar, si, up3]
    · simp [hp, upI, iv, jv, ai, ar, si, up3, h2]
  · simp [hp, upI, iv, jv, ai, ar, si, up3, h]
theorem hs_5_1 (S : ST) (x : Nat) (v : Int) : hp (si S 5 1 x v) = upI (hp S) (5, x) (.inl (7, [vr (some (6, x)), vi v, vi (iv S 5 2 x), vi (iv S 5 3 x), vi (iv S 5 4 x)])) := by
  funext j
  obtain ⟨t, y⟩ := j
  by_cases h : t = 5
  · subst h
    by_cases h2 : y = x
    · subst h2
      simp [hp, upI, iv, jv, ai, ar, si, up3]
    · simp [hp, upI, iv, jv, ai, ar, si, up3, h2]
  · simp [hp, upI, iv, jv, ai, ar, si, up3, h]
theorem hs_5_2 (S : ST) (x : Nat) (v : Int) : hp (si S 5 2 x v) = upI (hp S) (5, x) (.inl (7, [vr (some (6, x)), vi (iv S 5 1 x), vi v, vi (iv S 5 3 x), vi (iv S 5 4 x)])) := by
  funext j
  obtain ⟨t, y⟩ := j
  by_cases h : t = 5
  · subst h
    by_cases h2 : y = x
    · subst h2
      simp [hp, upI, iv, jv, ai, ar, si, up3]
    · simp [hp, upI, iv, jv, ai, ar, si, up3, h2]
  · simp [hp, upI, iv, jv, ai, ar, si, up3, h]
theorem hs_5_3 (S : ST) (x : Nat) (v : Int) : hp (si S 5 3 x v) = upI (hp S) (5, x) (.inl (7, [vr (some (6, x)), vi (iv S 5 1 x), vi (iv S 5 2 x), vi v, vi (iv S 5 4 x)])) := by
  funext j
  obtain ⟨t, y⟩ := j
  by_cases h : t = 5
  · subst h
    by_cases h2 : y = x
    · subst h2
      simp [hp, upI, iv, jv, ai, ar, si, up3]
    · simp [hp, upI, iv, jv, ai, ar, si, up3, h2]
  · simp [hp, upI, iv, jv, ai, ar, si, up3, h]
theorem hs_5_4 (S : ST) (x : Nat) (v : Int) : hp (si S 5 4 x v) = upI (hp S) (5, x) (.inl (7, [vr (some (6, x)), vi (iv S 5 1 x), vi (iv S 5 2 x), vi (iv S 5 3 x), vi v])) := by
  funext j
  obtain ⟨t, y⟩ := j
  by_cases h : t = 5
  · subst h
    by_cases h2 : y = x
    · subst h2
      simp [hp, upI, iv, jv, ai, ar, si, up3]
    · simp [hp, upI, iv, jv, ai, ar, si, up3, h2]
  · simp [hp, upI, iv, jv, ai, ar, si, up3, h]
theorem hs_7_0 (S : ST) (x : Nat) (v : Int) : hp (si S 7 0 x v) = upI (hp S) (7, x) (.inl (6, [vi v])) := by
  funext j
  obtain ⟨t, y⟩ := j
  by_cases h : t = 7
  · subst h
    by_cases h2 : y = x
    · subst h2
      simp [hp, upI, iv, jv, ai, ar, si, up3]
    · simp [hp, upI, iv, jv, ai, ar, si, up3, h2]
  · simp [hp, upI, iv, jv, ai, ar, si, up3, h]
theorem hs_8_1 (S : ST) (x : Nat) (v : Int) : hp (si S 8 1 x v) = upI (hp S) (8, x) (.inl (0, [vr (some (9, x)), vi v, vi (iv S 8 2 x), vi (iv S 8 3 x), vl (jv S 8 4 x : Nat), vi (iv S 8 5 x), vi (iv S 8 6 x), vi (iv S 8 7 x), vr (some (10, x))])) := by
  funext j
  obtain ⟨t, y⟩ := j
  by_cases h : t = 8
  · subst h
    by_cases h2 : y = x
    · subst h2
      simp [hp, upI, iv, jv, ai, ar, si, up3]
    · simp [hp, upI, iv, jv, ai, ar, si, up3, h2]
  · simp [hp, upI, iv, jv, ai, ar, si, up3, h]
theorem hs_8_2 (S : ST) (x : Nat) (v : Int) : hp (si S 8 2 x v) = upI (hp S) (8, x) (.inl (0, [vr (some (9, x)), vi (iv S 8 1 x), vi v, vi (iv S 8 3 x), vl (jv S 8 4 x : Nat), vi (iv S 8 5 x), vi (iv S 8 6 x), vi (iv S 8 7 x), vr (some (10, x))])) := by
  funext j
  obtain ⟨t, y⟩ := j
  by_cases h : t = 8
  · subst h
    by_cases h2 : y = x
    · subst h2
      simp [hp, upI, iv, jv, ai, ar, si, up3]
    · simp [hp, upI, iv, jv, ai, ar, si, up3, h2]
  · simp [hp, upI, iv, jv, ai, ar, si, up3, h]
theorem hs_8_3 (S : ST) (x : Nat) (v : Int) : hp (si S 8 3 x v) = upI (hp S) (8, x) (.inl (0, [vr (some (9, x)), vi (iv S 8 1 x), vi (iv S 8 2 x), vi v, vl (jv S 8 4 x : Nat), vi (iv S 8 5 x), vi (iv S 8 6 x), vi (iv S 8 7 x), vr (some (10, x))])) := by
  funext j
  obtain ⟨t, y⟩ := j
  by_cases h : t = 8
  · subst h
    by_cases h2 : y = x
    · subst h2
      simp [hp, upI, iv, jv, ai, ar, si, up3]
    · simp [hp, upI, iv, jv, ai, ar, si, up3, h2]
  · simp [hp, upI, iv, jv, ai, ar, si, up3, h]
theorem hs_8_6 (S : ST) (x : Nat) (v : Int) : hp (si S 8 6 x v) = upI (hp S) (8, x) (.inl (0, [vr (some (9, x)), vi (iv S 8 1 x), vi (iv S 8 2 x), vi (iv S 8 3 x), vl (jv S 8 4 x : Nat), vi (iv S 8 5 x), vi v, vi (iv S 8 7 x), vr (some (10, x))])) := by
  funext j
  obtain ⟨t, y⟩ := j
  by_cases h : t = 8
  · subst h
    by_cases h2 : y = x
    · subst h2
      simp [hp, upI, iv, jv, ai, ar, si, up3]
    · simp [hp, upI, iv, jv, ai, ar, si, up3, h2]
  · simp [hp, upI, iv, jv, ai, ar, si, up3, h]
theorem hs_8_7 (S : ST) (x : Nat) (v : Int) : hp (si S 8 7 x v) = upI (hp S) (8, x) (.inl (0, [vr (some (9, x)), vi (iv S 8 1 x), vi (iv S 8 2 x), vi (iv S 8 3 x), vl (jv S 8 4 x : Nat), vi (iv S 8 5 x), vi (iv S 8 6 x), vi v, vr (some (10, x))])) := by
  funext j
  obtain ⟨t, y⟩ := j
  by_cases h : t = 8
  · subst h
    by_cases h2 : y = x
    · subst h2
      simp [hp, upI, iv, jv, ai, ar, si, up3]
    · simp [hp, upI, iv, jv, ai, ar, si, up3, h2]
  · simp [hp, upI, iv, jv, ai, ar, si, up3, h]
theorem hs_11_1 (S : ST) (x : Nat) (v : Int) : hp (si S 11 1 x v) = upI (hp S) (11, x) (.inl (1, [vr (some (12, x)), vi v, vi (iv S 11 2 x), vi (iv S 11 3 x), vl (jv S 11 4 x : Nat), vi (x % 5 : Nat), vi (iv S 11 6 x), vi (iv S 11 7 x), vr (some (13, x))])) := by
  funext j
  obtain ⟨t, y⟩ := j
  by_cases h : t = 11
  · subst h
    by_cases h2 : y = x
    · subst h2
      simp [hp, upI, iv, jv, ai, ar, si, up3]
    · simp [hp, upI, iv, jv, ai, ar, si, up3, h2]
  · simp [hp, upI, iv, jv, ai, ar, si, up3, h]
theorem hs_11_2 (S : ST) (x : Nat) (v : Int) : hp (si S 11 2 x v) = upI (hp S) (11, x) (.inl (1, [vr (some (12, x)), vi (iv S 11 1 x), vi v, vi (iv S 11 3 x), vl (jv S 11 4 x : Nat), vi (x % 5 : Nat), vi (iv S 11 6 x), vi (iv S 11 7 x), vr (some (13, x))])) := by
  funext j
  obtain ⟨t, y⟩ := j
  by_cases h : t = 11
  · subst h
    by_cases h2 : y = x
    · subst h2
      simp [hp, upI, iv, jv, ai, ar, si, up3]
    · simp [hp, upI, iv, jv, ai, ar, si, up3, h2]
  · simp [hp, upI, iv, jv, ai, ar, si, up3, h]
theorem hs_11_3 (S : ST) (x : Nat) (v : Int) : hp (si S 11 3 x v) = upI (hp S) (11, x) (.inl (1, [vr (some (12, x)), vi (iv S 11 1 x), vi (iv S 11 2 x), vi v, vl (jv S 11 4 x : Nat), vi (x % 5 : Nat), vi (iv S 11 6 x), vi (iv S 11 7 x), vr (some (13, x))])) := by
  funext j
  obtain ⟨t, y⟩ := j
  by_cases h : t = 11
  · subst h
    by_cases h2 : y = x
    · subst h2
      simp [hp, upI, iv, jv, ai, ar, si, up3]
    · simp [hp, upI, iv, jv, ai, ar, si, up3, h2]
  · simp [hp, upI, iv, jv, ai, ar, si, up3, h]
theorem hs_11_6 (S : ST) (x : Nat) (v : Int) : hp (si S 11 6 x v) = upI (hp S) (11, x) (.inl (1, [vr (some (12, x)), vi (iv S 11 1 x), vi (iv S 11 2 x), vi (iv S 11 3 x), vl (jv S 11 4 x : Nat), vi (x % 5 : Nat), vi v, vi (iv S 11 7 x), vr (some (13, x))])) := by
  funext j
  obtain ⟨t, y⟩ := j
  by_cases h : t = 11
  · subst h
    by_cases h2 : y = x
    · subst h2
      simp [hp, upI, iv, jv, ai, ar, si, up3]
    · simp [hp, upI, iv, jv, ai, ar, si, up3, h2]
  · simp [hp, upI, iv, jv, ai, ar, si, up3, h]
theorem hs_11_7 (S : ST) (x : Nat) (v : Int) : hp (si S 11 7 x v) = upI (hp S) (11, x) (.inl (1, [vr (some (12, x)), vi (iv S 11 1 x), vi (iv S 11 2 x), vi (iv S 11 3 x), vl (jv S 11 4 x : Nat), vi (x % 5 : Nat), vi (iv S 11 6 x), vi v, vr (some (13, x))])) := by
  funext j
  obtain ⟨t, y⟩ := j
  by_cases h : t = 11
  · subst h
    by_cases h2 : y = x
    · subst h2
      simp [hp, upI, iv, jv, ai, ar, si, up3]
    · simp [hp, upI, iv, jv, ai, ar, si, up3, h2]
  · simp [hp, upI, iv, jv, ai, ar, si, up3, h]
theorem hs_14_0 (S : ST) (x : Nat) (v : Int) : hp (si S 14 0 x v) = upI (hp S) (14, x) (.inl (2, [vi v, vi (iv S 14 1 x), vi (iv S 14 2 x), vr (some (7, x / 30)), vl (jv S 14 4 x : Nat), vl (jv S 14 5 x : Nat)])) := by
  funext j
  obtain ⟨t, y⟩ := j
  by_cases h : t = 14
  · subst h
    by_cases h2 : y = x
    · subst h2
      simp [hp, upI, iv, jv, ai, ar, si, up3]
    · simp [hp, upI, iv, jv, ai, ar, si, up3, h2]
  · simp [hp, upI, iv, jv, ai, ar, si, up3, h]
theorem hs_14_1 (S : ST) (x : Nat) (v : Int) : hp (si S 14 1 x v) = upI (hp S) (14, x) (.inl (2, [vi (iv S 14 0 x), vi v, vi (iv S 14 2 x), vr (some (7, x / 30)), vl (jv S 14 4 x : Nat), vl (jv S 14 5 x : Nat)])) := by
  funext j
  obtain ⟨t, y⟩ := j
  by_cases h : t = 14
  · subst h
    by_cases h2 : y = x
    · subst h2
      simp [hp, upI, iv, jv, ai, ar, si, up3]
    · simp [hp, upI, iv, jv, ai, ar, si, up3, h2]
  · simp [hp, upI, iv, jv, ai, ar, si, up3, h]
theorem hs_14_2 (S : ST) (x : Nat) (v : Int) : hp (si S 14 2 x v) = upI (hp S) (14, x) (.inl (2, [vi (iv S 14 0 x), vi (iv S 14 1 x), vi v, vr (some (7, x / 30)), vl (jv S 14 4 x : Nat), vl (jv S 14 5 x : Nat)])) := by
  funext j
  obtain ⟨t, y⟩ := j
  by_cases h : t = 14
  · subst h
    by_cases h2 : y = x
    · subst h2
      simp [hp, upI, iv, jv, ai, ar, si, up3]
    · simp [hp, upI, iv, jv, ai, ar, si, up3, h2]
  · simp [hp, upI, iv, jv, ai, ar, si, up3, h]
theorem hs_15_2 (S : ST) (v : Int) : hp (si S 15 2 0 v) = upI (hp S) (15, 0) (.inl (4, [vr (some (7, 1)), vr (some (8, 1)), vi v, vi (iv S 15 3 0)])) := by
  funext j
  obtain ⟨t, y⟩ := j
  by_cases h : t = 15
  · subst h
    by_cases h2 : y = 0
    · subst h2
      simp [hp, upI, iv, jv, ai, ar, si, up3]
    · simp [hp, upI, iv, jv, ai, ar, si, up3, h2]
  · simp [hp, upI, iv, jv, ai, ar, si, up3, h]
theorem hs_15_3 (S : ST) (v : Int) : hp (si S 15 3 0 v) = upI (hp S) (15, 0) (.inl (4, [vr (some (7, 1)), vr (some (8, 1)), vi (iv S 15 2 0), vi v])) := by
  funext j
  obtain ⟨t, y⟩ := j
  by_cases h : t = 15
  · subst h
    by_cases h2 : y = 0
    · subst h2
      simp [hp, upI, iv, jv, ai, ar, si, up3]
    · simp [hp, upI, iv, jv, ai, ar, si, up3, h2]
  · simp [hp, upI, iv, jv, ai, ar, si, up3, h]
theorem hs_20_2 (S : ST) (v : Int) : hp (si S 20 2 0 v) = upI (hp S) (20, 0) (.inl (9, [vr (some (21, 0)), vr (some (21, 1)), vi v, vi (iv S 20 3 0), vi (iv S 20 4 0), vr (some (21, 5)), vr (some (21, 6)), vr (some (21, 7)), vr (some (21, 8)), vr (some (21, 9)), vr (some (21, 10)), vr (some (21, 11)), vr (some (21, 12)), vr (some (21, 13)), vr (some (21, 14)), vi (iv S 20 15 0), vi (iv S 20 16 0), vi (iv S 20 17 0), vr (some (21, 18)), vi (iv S 20 19 0), vr (some (21, 20)), vr (some (21, 21)), vi (iv S 20 22 0), vi (iv S 20 23 0), vi (iv S 20 24 0), vr (some (21, 25)), vr (some (21, 26)), vr (some (21, 27)), vr (some (21, 28)), vr (some (21, 29)), vr (some (21, 30)), vi (iv S 20 31 0), vi (iv S 20 32 0), vi (iv S 20 33 0), vi (iv S 20 34 0)])) := by
  funext j
  obtain ⟨t, y⟩ := j
  by_cases h : t = 20
  · subst h
    by_cases h2 : y = 0
    · subst h2
      simp [hp, upI, iv, jv, ai, ar, si, up3]
    · simp [hp, upI, iv, jv, ai, ar, si, up3, h2]
  · simp [hp, upI, iv, jv, ai, ar, si, up3, h]
theorem hs_20_3 (S : ST) (v : Int) : hp (si S 20 3 0 v) = upI (hp S) (20, 0) (.inl (9, [vr (some (21, 0)), vr (some (21, 1)), vi (iv S 20 2 0), vi v, vi (iv S 20 4 0), vr (some (21, 5)), vr (some (21, 6)), vr (some (21, 7)), vr (some (21, 8)), vr (some (21, 9)), vr (some (21, 10)), vr (some (21, 11)), vr (some (21, 12)), vr (some (21, 13)), vr (some (21, 14)), vi (iv S 20 15 0), vi (iv S 20 16 0), vi (iv S 20 17 0), vr (some (21, 18)), vi (iv S 20 19 0), vr (some (21, 20)), vr (some (21, 21)), vi (iv S 20 22 0), vi (iv S 20 23 0), vi (iv S 20 24 0), vr (some (21, 25)), vr (some (21, 26)), vr (some (21, 27)), vr (some (21, 28)), vr (some (21, 29)), vr (some (21, 30)), vi (iv S 20 31 0), vi (iv S 20 32 0), vi (iv S 20 33 0), vi (iv S 20 34 0)])) := by
  funext j
  obtain ⟨t, y⟩ := j
  by_cases h : t = 20
  · subst h
    by_cases h2 : y = 0
    · subst h2
      simp [hp, upI, iv, jv, ai, ar, si, up3]
    · simp [hp, upI, iv, jv, ai, ar, si, up3, h2]
  · simp [hp, upI, iv, jv, ai, ar, si, up3, h]
theorem hs_20_4 (S : ST) (v : Int) : hp (si S 20 4 0 v) = upI (hp S) (20, 0) (.inl (9, [vr (some (21, 0)), vr (some (21, 1)), vi (iv S 20 2 0), vi (iv S 20 3 0), vi v, vr (some (21, 5)), vr (some (21, 6)), vr (some (21, 7)), vr (some (21, 8)), vr (some (21, 9)), vr (some (21, 10)), vr (some (21, 11)), vr (some (21, 12)), vr (some (21, 13)), vr (some (21, 14)), vi (iv S 20 15 0), vi (iv S 20 16 0), vi (iv S 20 17 0), vr (some (21, 18)), vi (iv S 20 19 0), vr (some (21, 20)), vr (some (21, 21)), vi (iv S 20 22 0), vi (iv S 20 23 0), vi (iv S 20 24 0), vr (some (21, 25)), vr (some (21, 26)), vr (some (21, 27)), vr (some (21, 28)), vr (some (21, 29)), vr (some (21, 30)), vi (iv S 20 31 0), vi (iv S 20 32 0), vi (iv S 20 33 0), vi (iv S 20 34 0)])) := by
  funext j
  obtain ⟨t, y⟩ := j
  by_cases h : t = 20
  · subst h
    by_cases h2 : y = 0
    · subst h2
      simp [hp, upI, iv, jv, ai, ar, si, up3]
    · simp [hp, upI, iv, jv, ai, ar, si, up3, h2]
  · simp [hp, upI, iv, jv, ai, ar, si, up3, h]
theorem hs_20_15 (S : ST) (v : Int) : hp (si S 20 15 0 v) = upI (hp S) (20, 0) (.inl (9, [vr (some (21, 0)), vr (some (21, 1)), vi (iv S 20 2 0), vi (iv S 20 3 0), vi (iv S 20 4 0), vr (some (21, 5)), vr (some (21, 6)), vr (some (21, 7)), vr (some (21, 8)), vr (some (21, 9)), vr (some (21, 10)), vr (some (21, 11)), vr (some (21, 12)), vr (some (21, 13)), vr (some (21, 14)), vi v, vi (iv S 20 16 0), vi (iv S 20 17 0), vr (some (21, 18)), vi (iv S 20 19 0), vr (some (21, 20)), vr (some (21, 21)), vi (iv S 20 22 0), vi (iv S 20 23 0), vi (iv S 20 24 0), vr (some (21, 25)), vr (some (21, 26)), vr (some (21, 27)), vr (some (21, 28)), vr (some (21, 29)), vr (some (21, 30)), vi (iv S 20 31 0), vi (iv S 20 32 0), vi (iv S 20 33 0), vi (iv S 20 34 0)])) := by
  funext j
  obtain ⟨t, y⟩ := j
  by_cases h : t = 20
  · subst h
    by_cases h2 : y = 0
    · subst h2
      simp [hp, upI, iv, jv, ai, ar, si, up3]
    · simp [hp, upI, iv, jv, ai, ar, si, up3, h2]
  · simp [hp, upI, iv, jv, ai, ar, si, up3, h]
theorem hs_20_16 (S : ST) (v : Int) : hp (si S 20 16 0 v) = upI (hp S) (20, 0) (.inl (9, [vr (some (21, 0)), vr (some (21, 1)), vi (iv S 20 2 0), vi (iv S 20 3 0), vi (iv S 20 4 0), vr (some (21, 5)), vr (some (21, 6)), vr (some (21, 7)), vr (some (21, 8)), vr (some (21, 9)), vr (some (21, 10)), vr (some (21, 11)), vr (some (21, 12)), vr (some (21, 13)), vr (some (21, 14)), vi (iv S 20 15 0), vi v, vi (iv S 20 17 0), vr (some (21, 18)), vi (iv S 20 19 0), vr (some (21, 20)), vr (some (21, 21)), vi (iv S 20 22 0), vi (iv S 20 23 0), vi (iv S 20 24 0), vr (some (21, 25)), vr (some (21, 26)), vr (some (21, 27)), vr (some (21, 28)), vr (some (21, 29)), vr (some (21, 30)), vi (iv S 20 31 0), vi (iv S 20 32 0), vi (iv S 20 33 0), vi (iv S 20 34 0)])) := by
  funext j
  obtain ⟨t, y⟩ := j
  by_cases h : t = 20
  · subst h
    by_cases h2 : y = 0
    · subst h2
      simp [hp, upI, iv, jv, ai, ar, si, up3]
    · simp [hp, upI, iv, jv, ai, ar, si, up3, h2]
  · simp [hp, upI, iv, jv, ai, ar, si, up3, h]
theorem hs_20_17 (S : ST) (v : Int) : hp (si S 20 17 0 v) = upI (hp S) (20, 0) (.inl (9, [vr (some (21, 0)), vr (some (21, 1)), vi (iv S 20 2 0), vi (iv S 20 3 0), vi (iv S 20 4 0), vr (some (21, 5)), vr (some (21, 6)), vr (some (21, 7)), vr (some (21, 8)), vr (some (21, 9)), vr (some (21, 10)), vr (some (21, 11)), vr (some (21, 12)), vr (some (21, 13)), vr (some (21, 14)), vi (iv S 20 15 0), vi (iv S 20 16 0), vi v, vr (some (21, 18)), vi (iv S 20 19 0), vr (some (21, 20)), vr (some (21, 21)), vi (iv S 20 22 0), vi (iv S 20 23 0), vi (iv S 20 24 0), vr (some (21, 25)), vr (some (21, 26)), vr (some (21, 27)), vr (some (21, 28)), vr (some (21, 29)), vr (some (21, 30)), vi (iv S 20 31 0), vi (iv S 20 32 0), vi (iv S 20 33 0), vi (iv S 20 34 0)])) := by
  funext j
  obtain ⟨t, y⟩ := j
  by_cases h : t = 20
  · subst h
    by_cases h2 : y = 0
    · subst h2
      simp [hp, upI, iv, jv, ai, ar, si, up3]
    · simp [hp, upI, iv, jv, ai, ar, si, up3, h2]
  · simp [hp, upI, iv, jv, ai, ar, si, up3, h]
theorem hs_20_19 (S : ST) (v : Int) : hp (si S 20 19 0 v) = upI (hp S) (20, 0) (.inl (9, [vr (some (21, 0)), vr (some (21, 1)), vi (iv S 20 2 0), vi (iv S 20 3 0), vi (iv S 20 4 0), vr (some (21, 5)), vr (some (21, 6)), vr (some (21, 7)), vr (some (21, 8)), vr (some (21, 9)), vr (some (21, 10)), vr (some (21, 11)), vr (some (21, 12)), vr (some (21, 13)), vr (some (21, 14)), vi (iv S 20 15 0), vi (iv S 20 16 0), vi (iv S 20 17 0), vr (some (21, 18)), vi v, vr (some (21, 20)), vr (some (21, 21)), vi (iv S 20 22 0), vi (iv S 20 23 0), vi (iv S 20 24 0), vr (some (21, 25)), vr (some (21, 26)), vr (some (21, 27)), vr (some (21, 28)), vr (some (21, 29)), vr (some (21, 30)), vi (iv S 20 31 0), vi (iv S 20 32 0), vi (iv S 20 33 0), vi (iv S 20 34 0)])) := by
  funext j
  obtain ⟨t, y⟩ := j
  by_cases h : t = 20
  · subst h
    by_cases h2 : y = 0
    · subst h2
      simp [hp, upI, iv, jv, ai, ar, si, up3]
    · simp [hp, upI, iv, jv, ai, ar, si, up3, h2]
  · simp [hp, upI, iv, jv, ai, ar, si, up3, h]
theorem hs_20_22 (S : ST) (v : Int) : hp (si S 20 22 0 v) = upI (hp S) (20, 0) (.inl (9, [vr (some (21, 0)), vr (some (21, 1)), vi (iv S 20 2 0), vi (iv S 20 3 0), vi (iv S 20 4 0), vr (some (21, 5)), vr (some (21, 6)), vr (some (21, 7)), vr (some (21, 8)), vr (some (21, 9)), vr (some (21, 10)), vr (some (21, 11)), vr (some (21, 12)), vr (some (21, 13)), vr (some (21, 14)), vi (iv S 20 15 0), vi (iv S 20 16 0), vi (iv S 20 17 0), vr (some (21, 18)), vi (iv S 20 19 0), vr (some (21, 20)), vr (some (21, 21)), vi v, vi (iv S 20 23 0), vi (iv S 20 24 0), vr (some (21, 25)), vr (some (21, 26)), vr (some (21, 27)), vr (some (21, 28)), vr (some (21, 29)), vr (some (21, 30)), vi (iv S 20 31 0), vi (iv S 20 32 0), vi (iv S 20 33 0), vi (iv S 20 34 0)])) := by
  funext j
  obtain ⟨t, y⟩ := j
  by_cases h : t = 20
  · subst h
    by_cases h2 : y = 0
    · subst h2
      simp [hp, upI, iv, jv, ai, ar, si, up3]
    · simp [hp, upI, iv, jv, ai, ar, si, up3, h2]
  · simp [hp, upI, iv, jv, ai, ar, si, up3, h]
theorem hs_20_23 (S : ST) (v : Int) : hp (si S 20 23 0 v) = upI (hp S) (20, 0) (.inl (9, [vr (some (21, 0)), vr (some (21, 1)), vi (iv S 20 2 0), vi (iv S 20 3 0), vi (iv S 20 4 0), vr (some (21, 5)), vr (some (21, 6)), vr (some (21, 7)), vr (some (21, 8)), vr (some (21, 9)), vr (some (21, 10)), vr (some (21, 11)), vr (some (21, 12)), vr (some (21, 13)), vr (some (21, 14)), vi (iv S 20 15 0), vi (iv S 20 16 0), vi (iv S 20 17 0), vr (some (21, 18)), vi (iv S 20 19 0), vr (some (21, 20)), vr (some (21, 21)), vi (iv S 20 22 0), vi v, vi (iv S 20 24 0), vr (some (21, 25)), vr (some (21, 26)), vr (some (21, 27)), vr (some (21, 28)), vr (some (21, 29)), vr (some (21, 30)), vi (iv S 20 31 0), vi (iv S 20 32 0), vi (iv S 20 33 0), vi (iv S 20 34 0)])) := by
  funext j
  obtain ⟨t, y⟩ := j
  by_cases h : t = 20
  · subst h
    by_cases h2 : y = 0
    · subst h2
      simp [hp, upI, iv, jv, ai, ar, si, up3]
    · simp [hp, upI, iv, jv, ai, ar, si, up3, h2]
  · simp [hp, upI, iv, jv, ai, ar, si, up3, h]
theorem hs_20_24 (S : ST) (v : Int) : hp (si S 20 24 0 v) = upI (hp S) (20, 0) (.inl (9, [vr (some (21, 0)), vr (some (21, 1)), vi (iv S 20 2 0), vi (iv S 20 3 0), vi (iv S 20 4 0), vr (some (21, 5)), vr (some (21, 6)), vr (some (21, 7)), vr (some (21, 8)), vr (some (21, 9)), vr (some (21, 10)), vr (some (21, 11)), vr (some (21, 12)), vr (some (21, 13)), vr (some (21, 14)), vi (iv S 20 15 0), vi (iv S 20 16 0), vi (iv S 20 17 0), vr (some (21, 18)), vi (iv S 20 19 0), vr (some (21, 20)), vr (some (21, 21)), vi (iv S 20 22 0), vi (iv S 20 23 0), vi v, vr (some (21, 25)), vr (some (21, 26)), vr (some (21, 27)), vr (some (21, 28)), vr (some (21, 29)), vr (some (21, 30)), vi (iv S 20 31 0), vi (iv S 20 32 0), vi (iv S 20 33 0), vi (iv S 20 34 0)])) := by
  funext j
  obtain ⟨t, y⟩ := j
  by_cases h : t = 20
  · subst h
    by_cases h2 : y = 0
    · subst h2
      simp [hp, upI, iv, jv, ai, ar, si, up3]
    · simp [hp, upI, iv, jv, ai, ar, si, up3, h2]
  · simp [hp, upI, iv, jv, ai, ar, si, up3, h]
theorem hs_20_31 (S : ST) (v : Int) : hp (si S 20 31 0 v) = upI (hp S) (20, 0) (.inl (9, [vr (some (21, 0)), vr (some (21, 1)), vi (iv S 20 2 0), vi (iv S 20 3 0), vi (iv S 20 4 0), vr (some (21, 5)), vr (some (21, 6)), vr (some (21, 7)), vr (some (21, 8)), vr (some (21, 9)), vr (some (21, 10)), vr (some (21, 11)), vr (some (21, 12)), vr (some (21, 13)), vr (some (21, 14)), vi (iv S 20 15 0), vi (iv S 20 16 0), vi (iv S 20 17 0), vr (some (21, 18)), vi (iv S 20 19 0), vr (some (21, 20)), vr (some (21, 21)), vi (iv S 20 22 0), vi (iv S 20 23 0), vi (iv S 20 24 0), vr (some (21, 25)), vr (some (21, 26)), vr (some (21, 27)), vr (some (21, 28)), vr (some (21, 29)), vr (some (21, 30)), vi v, vi (iv S 20 32 0), vi (iv S 20 33 0), vi (iv S 20 34 0)])) := by
  funext j
  obtain ⟨t, y⟩ := j
  by_cases h : t = 20
  · subst h
    by_cases h2 : y = 0
    · subst h2
      simp [hp, upI, iv, jv, ai, ar, si, up3]
    · simp [hp, upI, iv, jv, ai, ar, si, up3, h2]
  · simp [hp, upI, iv, jv, ai, ar, si, up3, h]
theorem hs_20_32 (S : ST) (v : Int) : hp (si S 20 32 0 v) = upI (hp S) (20, 0) (.inl (9, [vr (some (21, 0)), vr (some (21, 1)), vi (iv S 20 2 0), vi (iv S 20 3 0), vi (iv S 20 4 0), vr (some (21, 5)), vr (some (21, 6)), vr (some (21, 7)), vr (some (21, 8)), vr (some (21, 9)), vr (some (21, 10)), vr (some (21, 11)), vr (some (21, 12)), vr (some (21, 13)), vr (some (21, 14)), vi (iv S 20 15 0), vi (iv S 20 16 0), vi (iv S 20 17 0), vr (some (21, 18)), vi (iv S 20 19 0), vr (some (21, 20)), vr (some (21, 21)), vi (iv S 20 22 0), vi (iv S 20 23 0), vi (iv S 20 24 0), vr (some (21, 25)), vr (some (21, 26)), vr (some (21, 27)), vr (some (21, 28)), vr (some (21, 29)), vr (some (21, 30)), vi (iv S 20 31 0), vi v, vi (iv S 20 33 0), vi (iv S 20 34 0)])) := by
  funext j
  obtain ⟨t, y⟩ := j
  by_cases h : t = 20
  · subst h
    by_cases h2 : y = 0
    · subst h2
      simp [hp, upI, iv, jv, ai, ar, si, up3]
    · simp [hp, upI, iv, jv, ai, ar, si, up3, h2]
  · simp [hp, upI, iv, jv, ai, ar, si, up3, h]
theorem hs_20_33 (S : ST) (v : Int) : hp (si S 20 33 0 v) = upI (hp S) (20, 0) (.inl (9, [vr (some (21, 0)), vr (some (21, 1)), vi (iv S 20 2 0), vi (iv S 20 3 0), vi (iv S 20 4 0), vr (some (21, 5)), vr (some (21, 6)), vr (some (21, 7)), vr (some (21, 8)), vr (some (21, 9)), vr (some (21, 10)), vr (some (21, 11)), vr (some (21, 12)), vr (some (21, 13)), vr (some (21, 14)), vi (iv S 20 15 0), vi (iv S 20 16 0), vi (iv S 20 17 0), vr (some (21, 18)), vi (iv S 20 19 0), vr (some (21, 20)), vr (some (21, 21)), vi (iv S 20 22 0), vi (iv S 20 23 0), vi (iv S 20 24 0), vr (some (21, 25)), vr (some (21, 26)), vr (some (21, 27)), vr (some (21, 28)), vr (some (21, 29)), vr (some (21, 30)), vi (iv S 20 31 0), vi (iv S 20 32 0), vi v, vi (iv S 20 34 0)])) := by
  funext j
  obtain ⟨t, y⟩ := j
  by_cases h : t = 20
  · subst h
    by_cases h2 : y = 0
    · subst h2
      simp [hp, upI, iv, jv, ai, ar, si, up3]
    · simp [hp, upI, iv, jv, ai, ar, si, up3, h2]
  · simp [hp, upI, iv, jv, ai, ar, si, up3, h]
theorem hs_20_34 (S : ST) (v : Int) : hp (si S 20 34 0 v) = upI (hp S) (20, 0) (.inl (9, [vr (some (21, 0)), vr (some (21, 1)), vi (iv S 20 2 0), vi (iv S 20 3 0), vi (iv S 20 4 0), vr (some (21, 5)), vr (some (21, 6)), vr (some (21, 7)), vr (some (21, 8)), vr (some (21, 9)), vr (some (21, 10)), vr (some (21, 11)), vr (some (21, 12)), vr (some (21, 13)), vr (some (21, 14)), vi (iv S 20 15 0), vi (iv S 20 16 0), vi (iv S 20 17 0), vr (some (21, 18)), vi (iv S 20 19 0), vr (some (21, 20)), vr (some (21, 21)), vi (iv S 20 22 0), vi (iv S 20 23 0), vi (iv S 20 24 0), vr (some (21, 25)), vr (some (21, 26)), vr (some (21, 27)), vr (some (21, 28)), vr (some (21, 29)), vr (some (21, 30)), vi (iv S 20 31 0), vi (iv S 20 32 0), vi (iv S 20 33 0), vi v])) := by
  funext j
  obtain ⟨t, y⟩ := j
  by_cases h : t = 20
  · subst h
    by_cases h2 : y = 0
    · subst h2
      simp [hp, upI, iv, jv, ai, ar, si, up3]
    · simp [hp, upI, iv, jv, ai, ar, si, up3, h2]
  · simp [hp, upI, iv, jv, ai, ar, si, up3, h]
theorem hs_8_4 (S : ST) (x : Nat) (v : Nat) : hp (sj S 8 4 x v) = upI (hp S) (8, x) (.inl (0, [vr (some (9, x)), vi (iv S 8 1 x), vi (iv S 8 2 x), vi (iv S 8 3 x), vl (v : Nat), vi (iv S 8 5 x), vi (iv S 8 6 x), vi (iv S 8 7 x), vr (some (10, x))])) := by
  funext j
  obtain ⟨t, y⟩ := j
  by_cases h : t = 8
  · subst h
    by_cases h2 : y = x
    · subst h2
      simp [hp, upI, iv, jv, ai, ar, sj, up3]
    · simp [hp, upI, iv, jv, ai, ar, sj, up3, h2]
  · simp [hp, upI, iv, jv, ai, ar, sj, up3, h]
theorem hs_11_4 (S : ST) (x : Nat) (v : Nat) : hp (sj S 11 4 x v) = upI (hp S) (11, x) (.inl (1, [vr (some (12, x)), vi (iv S 11 1 x), vi (iv S 11 2 x), vi (iv S 11 3 x), vl (v : Nat), vi (x % 5 : Nat), vi (iv S 11 6 x), vi (iv S 11 7 x), vr (some (13, x))])) := by
  funext j
  obtain ⟨t, y⟩ := j
  by_cases h : t = 11
  · subst h
    by_cases h2 : y = x
    · subst h2
      simp [hp, upI, iv, jv, ai, ar, sj, up3]
    · simp [hp, upI, iv, jv, ai, ar, sj, up3, h2]
  · simp [hp, upI, iv, jv, ai, ar, sj, up3, h]
theorem hs_14_4 (S : ST) (x : Nat) (v : Nat) : hp (sj S 14 4 x v) = upI (hp S) (14, x) (.inl (2, [vi (iv S 14 0 x), vi (iv S 14 1 x), vi (iv S 14 2 x), vr (some (7, x / 30)), vl (v : Nat), vl (jv S 14 5 x : Nat)])) := by
  funext j
  obtain ⟨t, y⟩ := j
  by_cases h : t = 14
  · subst h
    by_cases h2 : y = x
    · subst h2
      simp [hp, upI, iv, jv, ai, ar, sj, up3]
    · simp [hp, upI, iv, jv, ai, ar, sj, up3, h2]
  · simp [hp, upI, iv, jv, ai, ar, sj, up3, h]
theorem hs_14_5 (S : ST) (x : Nat) (v : Nat) : hp (sj S 14 5 x v) = upI (hp S) (14, x) (.inl (2, [vi (iv S 14 0 x), vi (iv S 14 1 x), vi (iv S 14 2 x), vr (some (7, x / 30)), vl (jv S 14 4 x : Nat), vl (v : Nat)])) := by
  funext j
  obtain ⟨t, y⟩ := j
  by_cases h : t = 14
  · subst h
    by_cases h2 : y = x
    · subst h2
      simp [hp, upI, iv, jv, ai, ar, sj, up3]
    · simp [hp, upI, iv, jv, ai, ar, sj, up3, h2]
  · simp [hp, upI, iv, jv, ai, ar, sj, up3, h]
theorem ha_2 (S : ST) (j : Nat) (v : Int) : hp (sa S 2 0 j v) = upI (hp S) (2, 0) (.inr (.inl (0, 40, upF (ai S 2 0) j v))) := by
  funext j'
  obtain ⟨t, y⟩ := j'
  by_cases h : t = 2
  · subst h
    by_cases h2 : y = 0
    · subst h2
      simp [hp, upI, iv, jv, ai, ar, sa]
      try (funext z; by_cases hz : z = j <;> simp [upF, up3, hz, sa, sr])
    · simp [hp, upI, iv, jv, ai, ar, sa, up3_ne2, h2]
  · simp [hp, upI, iv, jv, ai, ar, sa, up3_ne, h]
theorem ha_6 (S : ST) (x : Nat) (j : Nat) (v : Int) : hp (sa S 6 x j v) = upI (hp S) (6, x) (.inr (.inl (0, 6, upF (ai S 6 x) j v))) := by
  funext j'
  obtain ⟨t, y⟩ := j'
  by_cases h : t = 6
  · subst h
    by_cases h2 : y = x
    · subst h2
      simp [hp, upI, iv, jv, ai, ar, sa]
      try (funext z; by_cases hz : z = j <;> simp [upF, up3, hz, sa, sr])
    · simp [hp, upI, iv, jv, ai, ar, sa, up3_ne2, h2]
  · simp [hp, upI, iv, jv, ai, ar, sa, up3_ne, h]
theorem ha_21_0 (S : ST) (j : Nat) (v : Int) : hp (sa S 21 0 j v) = upI (hp S) (21, 0) (.inr (.inl (1, 40, upF (ai S 21 0) j v))) := by
  funext j'
  obtain ⟨t, y⟩ := j'
  by_cases h : t = 21
  · subst h
    by_cases h2 : y = 0
    · subst h2
      simp [hp, upI, iv, jv, ai, ar, sa]
      try (funext z; by_cases hz : z = j <;> simp [upF, up3, hz, sa, sr])
    · simp [hp, upI, iv, jv, ai, ar, sa, up3_ne2, h2]
  · simp [hp, upI, iv, jv, ai, ar, sa, up3_ne, h]
theorem ha_21_1 (S : ST) (j : Nat) (v : Int) : hp (sa S 21 1 j v) = upI (hp S) (21, 1) (.inr (.inl (0, 40, upF (ai S 21 1) j v))) := by
  funext j'
  obtain ⟨t, y⟩ := j'
  by_cases h : t = 21
  · subst h
    by_cases h2 : y = 1
    · subst h2
      simp [hp, upI, iv, jv, ai, ar, sa]
      try (funext z; by_cases hz : z = j <;> simp [upF, up3, hz, sa, sr])
    · simp [hp, upI, iv, jv, ai, ar, sa, up3_ne2, h2]
  · simp [hp, upI, iv, jv, ai, ar, sa, up3_ne, h]
theorem ha_21_5 (S : ST) (j : Nat) (v : Int) : hp (sa S 21 5 j v) = upI (hp S) (21, 5) (.inr (.inl (0, 5, upF (ai S 21 5) j v))) := by
  funext j'
  obtain ⟨t, y⟩ := j'
  by_cases h : t = 21
  · subst h
    by_cases h2 : y = 5
    · subst h2
      simp [hp, upI, iv, jv, ai, ar, sa]
      try (funext z; by_cases hz : z = j <;> simp [upF, up3, hz, sa, sr])
    · simp [hp, upI, iv, jv, ai, ar, sa, up3_ne2, h2]
  · simp [hp, upI, iv, jv, ai, ar, sa, up3_ne, h]
theorem ha_21_6 (S : ST) (j : Nat) (v : Int) : hp (sa S 21 6 j v) = upI (hp S) (21, 6) (.inr (.inl (0, 5, upF (ai S 21 6) j v))) := by
  funext j'
  obtain ⟨t, y⟩ := j'
  by_cases h : t = 21
  · subst h
    by_cases h2 : y = 6
    · subst h2
      simp [hp, upI, iv, jv, ai, ar, sa]
      try (funext z; by_cases hz : z = j <;> simp [upF, up3, hz, sa, sr])
    · simp [hp, upI, iv, jv, ai, ar, sa, up3_ne2, h2]
  · simp [hp, upI, iv, jv, ai, ar, sa, up3_ne, h]
theorem ha_21_7 (S : ST) (j : Nat) (v : Int) : hp (sa S 21 7 j v) = upI (hp S) (21, 7) (.inr (.inl (1, 5, upF (ai S 21 7) j v))) := by
  funext j'
  obtain ⟨t, y⟩ := j'
  by_cases h : t = 21
  · subst h
    by_cases h2 : y = 7
    · subst h2
      simp [hp, upI, iv, jv, ai, ar, sa]
      try (funext z; by_cases hz : z = j <;> simp [upF, up3, hz, sa, sr])
    · simp [hp, upI, iv, jv, ai, ar, sa, up3_ne2, h2]
  · simp [hp, upI, iv, jv, ai, ar, sa, up3_ne, h]
theorem ha_21_8 (S : ST) (j : Nat) (v : Int) : hp (sa S 21 8 j v) = upI (hp S) (21, 8) (.inr (.inl (0, 5, upF (ai S 21 8) j v))) := by
  funext j'
  obtain ⟨t, y⟩ := j'
  by_cases h : t = 21
  · subst h
    by_cases h2 : y = 8
    · subst h2
      simp [hp, upI, iv, jv, ai, ar, sa]
      try (funext z; by_cases hz : z = j <;> simp [upF, up3, hz, sa, sr])
    · simp [hp, upI, iv, jv, ai, ar, sa, up3_ne2, h2]
  · simp [hp, upI, iv, jv, ai, ar, sa, up3_ne, h]
theorem ha_21_9 (S : ST) (j : Nat) (v : Int) : hp (sa S 21 9 j v) = upI (hp S) (21, 9) (.inr (.inl (0, 30, upF (ai S 21 9) j v))) := by
  funext j'
  obtain ⟨t, y⟩ := j'
  by_cases h : t = 21
  · subst h
    by_cases h2 : y = 9
    · subst h2
      simp [hp, upI, iv, jv, ai, ar, sa]
      try (funext z; by_cases hz : z = j <;> simp [upF, up3, hz, sa, sr])
    · simp [hp, upI, iv, jv, ai, ar, sa, up3_ne2, h2]
  · simp [hp, upI, iv, jv, ai, ar, sa, up3_ne, h]
theorem ha_21_10 (S : ST) (j : Nat) (v : Int) : hp (sa S 21 10 j v) = upI (hp S) (21, 10) (.inr (.inl (0, 5, upF (ai S 21 10) j v))) := by
  funext j'
  obtain ⟨t, y⟩ := j'
  by_cases h : t = 21
  · subst h
    by_cases h2 : y = 10
    · subst h2
      simp [hp, upI, iv, jv, ai, ar, sa]
      try (funext z; by_cases hz : z = j <;> simp [upF, up3, hz, sa, sr])
    · simp [hp, upI, iv, jv, ai, ar, sa, up3_ne2, h2]
  · simp [hp, upI, iv, jv, ai, ar, sa, up3_ne, h]
theorem ha_21_11 (S : ST) (j : Nat) (v : Int) : hp (sa S 21 11 j v) = upI (hp S) (21, 11) (.inr (.inl (0, 5, upF (ai S 21 11) j v))) := by
  funext j'
  obtain ⟨t, y⟩ := j'
  by_cases h : t = 21
  · subst h
    by_cases h2 : y = 11
    · subst h2
      simp [hp, upI, iv, jv, ai, ar, sa]
      try (funext z; by_cases hz : z = j <;> simp [upF, up3, hz, sa, sr])
    · simp [hp, upI, iv, jv, ai, ar, sa, up3_ne2, h2]
  · simp [hp, upI, iv, jv, ai, ar, sa, up3_ne, h]
theorem ha_21_12 (S : ST) (j : Nat) (v : Int) : hp (sa S 21 12 j v) = upI (hp S) (21, 12) (.inr (.inl (0, 5, upF (ai S 21 12) j v))) := by
  funext j'
  obtain ⟨t, y⟩ := j'
  by_cases h : t = 21
  · subst h
    by_cases h2 : y = 12
    · subst h2
      simp [hp, upI, iv, jv, ai, ar, sa]
      try (funext z; by_cases hz : z = j <;> simp [upF, up3, hz, sa, sr])
    · simp [hp, upI, iv, jv, ai, ar, sa, up3_ne2, h2]
  · simp [hp, upI, iv, jv, ai, ar, sa, up3_ne, h]
theorem ha_21_13 (S : ST) (j : Nat) (v : Int) : hp (sa S 21 13 j v) = upI (hp S) (21, 13) (.inr (.inl (0, 30, upF (ai S 21 13) j v))) := by
  funext j'
  obtain ⟨t, y⟩ := j'
  by_cases h : t = 21
  · subst h
    by_cases h2 : y = 13
    · subst h2
      simp [hp, upI, iv, jv, ai, ar, sa]
      try (funext z; by_cases hz : z = j <;> simp [upF, up3, hz, sa, sr])
    · simp [hp, upI, iv, jv, ai, ar, sa, up3_ne2, h2]
  · simp [hp, upI, iv, jv, ai, ar, sa, up3_ne, h]
theorem ha_21_14 (S : ST) (j : Nat) (v : Int) : hp (sa S 21 14 j v) = upI (hp S) (21, 14) (.inr (.inl (0, 5, upF (ai S 21 14) j v))) := by
  funext j'
  obtain ⟨t, y⟩ := j'
  by_cases h : t = 21
  · subst h
    by_cases h2 : y = 14
    · subst h2
      simp [hp, upI, iv, jv, ai, ar, sa]
      try (funext z; by_cases hz : z = j <;> simp [upF, up3, hz, sa, sr])
    · simp [hp, upI, iv, jv, ai, ar, sa, up3_ne2, h2]
  · simp [hp, upI, iv, jv, ai, ar, sa, up3_ne, h]
theorem ha_21_18 (S : ST) (j : Nat) (v : Int) : hp (sa S 21 18 j v) = upI (hp S) (21, 18) (.inr (.inl (0, 5, upF (ai S 21 18) j v))) := by
  funext j'
  obtain ⟨t, y⟩ := j'
  by_cases h : t = 21
  · subst h
    by_cases h2 : y = 18
    · subst h2
      simp [hp, upI, iv, jv, ai, ar, sa]
      try (funext z; by_cases hz : z = j <;> simp [upF, up3, hz, sa, sr])
    · simp [hp, upI, iv, jv, ai, ar, sa, up3_ne2, h2]
  · simp [hp, upI, iv, jv, ai, ar, sa, up3_ne, h]
theorem ha_21_20 (S : ST) (j : Nat) (v : Int) : hp (sa S 21 20 j v) = upI (hp S) (21, 20) (.inr (.inl (1, 40, upF (ai S 21 20) j v))) := by
  funext j'
  obtain ⟨t, y⟩ := j'
  by_cases h : t = 21
  · subst h
    by_cases h2 : y = 20
    · subst h2
      simp [hp, upI, iv, jv, ai, ar, sa]
      try (funext z; by_cases hz : z = j <;> simp [upF, up3, hz, sa, sr])
    · simp [hp, upI, iv, jv, ai, ar, sa, up3_ne2, h2]
  · simp [hp, upI, iv, jv, ai, ar, sa, up3_ne, h]
theorem ha_21_21 (S : ST) (j : Nat) (v : Int) : hp (sa S 21 21 j v) = upI (hp S) (21, 21) (.inr (.inl (0, 40, upF (ai S 21 21) j v))) := by
  funext j'
  obtain ⟨t, y⟩ := j'
  by_cases h : t = 21
  · subst h
    by_cases h2 : y = 21
    · subst h2
      simp [hp, upI, iv, jv, ai, ar, sa]
      try (funext z; by_cases hz : z = j <;> simp [upF, up3, hz, sa, sr])
    · simp [hp, upI, iv, jv, ai, ar, sa, up3_ne2, h2]
  · simp [hp, upI, iv, jv, ai, ar, sa, up3_ne, h]
theorem ha_21_25 (S : ST) (j : Nat) (v : Int) : hp (sa S 21 25 j v) = upI (hp S) (21, 25) (.inr (.inl (0, 5, upF (ai S 21 25) j v))) := by
  funext j'
  obtain ⟨t, y⟩ := j'
  by_cases h : t = 21
  · subst h
    by_cases h2 : y = 25
    · subst h2
      simp [hp, upI, iv, jv, ai, ar, sa]
      try (funext z; by_cases hz : z = j <;> simp [upF, up3, hz, sa, sr])
    · simp [hp, upI, iv, jv, ai, ar, sa, up3_ne2, h2]
  · simp [hp, upI, iv, jv, ai, ar, sa, up3_ne, h]
theorem ha_21_26 (S : ST) (j : Nat) (v : Int) : hp (sa S 21 26 j v) = upI (hp S) (21, 26) (.inr (.inl (0, 5, upF (ai S 21 26) j v))) := by
  funext j'
  obtain ⟨t, y⟩ := j'
  by_cases h : t = 21
  · subst h
    by_cases h2 : y = 26
    · subst h2
      simp [hp, upI, iv, jv, ai, ar, sa]
      try (funext z; by_cases hz : z = j <;> simp [upF, up3, hz, sa, sr])
    · simp [hp, upI, iv, jv, ai, ar, sa, up3_ne2, h2]
  · simp [hp, upI, iv, jv, ai, ar, sa, up3_ne, h]
theorem ha_21_27 (S : ST) (j : Nat) (v : Int) : hp (sa S 21 27 j v) = upI (hp S) (21, 27) (.inr (.inl (0, 5, upF (ai S 21 27) j v))) := by
  funext j'
  obtain ⟨t, y⟩ := j'
  by_cases h : t = 21
  · subst h
    by_cases h2 : y = 27
    · subst h2
      simp [hp, upI, iv, jv, ai, ar, sa]
      try (funext z; by_cases hz : z = j <;> simp [upF, up3, hz, sa, sr])
    · simp [hp, upI, iv, jv, ai, ar, sa, up3_ne2, h2]
  · simp [hp, upI, iv, jv, ai, ar, sa, up3_ne, h]
theorem ha_21_28 (S : ST) (j : Nat) (v : Int) : hp (sa S 21 28 j v) = upI (hp S) (21, 28) (.inr (.inl (0, 30, upF (ai S 21 28) j v))) := by
  funext j'
  obtain ⟨t, y⟩ := j'
  by_cases h : t = 21
  · subst h
    by_cases h2 : y = 28
    · subst h2
      simp [hp, upI, iv, jv, ai, ar, sa]
      try (funext z; by_cases hz : z = j <;> simp [upF, up3, hz, sa, sr])
    · simp [hp, upI, iv, jv, ai, ar, sa, up3_ne2, h2]
  · simp [hp, upI, iv, jv, ai, ar, sa, up3_ne, h]
theorem ha_21_29 (S : ST) (j : Nat) (v : Int) : hp (sa S 21 29 j v) = upI (hp S) (21, 29) (.inr (.inl (0, 30, upF (ai S 21 29) j v))) := by
  funext j'
  obtain ⟨t, y⟩ := j'
  by_cases h : t = 21
  · subst h
    by_cases h2 : y = 29
    · subst h2
      simp [hp, upI, iv, jv, ai, ar, sa]
      try (funext z; by_cases hz : z = j <;> simp [upF, up3, hz, sa, sr])
    · simp [hp, upI, iv, jv, ai, ar, sa, up3_ne2, h2]
  · simp [hp, upI, iv, jv, ai, ar, sa, up3_ne, h]
theorem ha_21_30 (S : ST) (j : Nat) (v : Int) : hp (sa S 21 30 j v) = upI (hp S) (21, 30) (.inr (.inl (0, 5, upF (ai S 21 30) j v))) := by
  funext j'
  obtain ⟨t, y⟩ := j'
  by_cases h : t = 21
  · subst h
    by_cases h2 : y = 30
    · subst h2
      simp [hp, upI, iv, jv, ai, ar, sa]
      try (funext z; by_cases hz : z = j <;> simp [upF, up3, hz, sa, sr])
    · simp [hp, upI, iv, jv, ai, ar, sa, up3_ne2, h2]
  · simp [hp, upI, iv, jv, ai, ar, sa, up3_ne, h]
theorem ha_30 (S : ST) (j : Nat) (v : Int) : hp (sa S 30 0 j v) = upI (hp S) (30, 0) (.inr (.inr (.inr (6, 1, upF (ai S 30 0) j v)))) := by
  funext j'
  obtain ⟨t, y⟩ := j'
  by_cases h : t = 30
  · subst h
    by_cases h2 : y = 0
    · subst h2
      simp [hp, upI, iv, jv, ai, ar, sa]
      try (funext z; by_cases hz : z = j <;> simp [upF, up3, hz, sa, sr])
    · simp [hp, upI, iv, jv, ai, ar, sa, up3_ne2, h2]
  · simp [hp, upI, iv, jv, ai, ar, sa, up3_ne, h]
theorem ha_9 (S : ST) (x : Nat) (j : Nat) (v : Option Nat) : hp (sr S 9 x j v) = upI (hp S) (9, x) (.inr (.inr (.inl (2, 6, upF (fun j => (ar S 9 x j).map (fun v => ((11, v) : Idn))) j (v.map (fun v => ((11, v) : Idn))))))) := by
  funext j'
  obtain ⟨t, y⟩ := j'
  by_cases h : t = 9
  · subst h
    by_cases h2 : y = x
    · subst h2
      simp [hp, upI, iv, jv, ai, ar, sa]
      try (funext z; by_cases hz : z = j <;> simp [upF, up3, hz, sr, sr])
    · simp [hp, upI, iv, jv, ai, ar, sr, up3_ne2, h2]
  · simp [hp, upI, iv, jv, ai, ar, sr, up3_ne, h]
theorem ha_12 (S : ST) (x : Nat) (j : Nat) (v : Option Nat) : hp (sr S 12 x j v) = upI (hp S) (12, x) (.inr (.inr (.inl (2, 6, upF (fun j => (ar S 12 x j).map (fun v => ((14, v) : Idn))) j (v.map (fun v => ((14, v) : Idn))))))) := by
  funext j'
  obtain ⟨t, y⟩ := j'
  by_cases h : t = 12
  · subst h
    by_cases h2 : y = x
    · subst h2
      simp [hp, upI, iv, jv, ai, ar, sa]
      try (funext z; by_cases hz : z = j <;> simp [upF, up3, hz, sr, sr])
    · simp [hp, upI, iv, jv, ai, ar, sr, up3_ne2, h2]
  · simp [hp, upI, iv, jv, ai, ar, sr, up3_ne, h]
end
section
theorem i32_to {z : Int} (h1 : -2147483648 ≤ z) (h2 : z < 2147483648) : (Int32.ofInt z).toInt = z := by
  rw [Int32.toInt_ofInt, show Int32.size = 4294967296 from rfl]
  exact Int.bmod_eq_of_le (by omega) (by omega)
theorem i32_lt {a b : Int} (ha : -2147483648 ≤ a ∧ a < 2147483648) (hb : -2147483648 ≤ b ∧ b < 2147483648) : Int32.ofInt a < Int32.ofInt b ↔ a < b := by
  rw [Int32.lt_iff_toInt_lt, i32_to ha.1 ha.2, i32_to hb.1 hb.2]
theorem i32_le {a b : Int} (ha : -2147483648 ≤ a ∧ a < 2147483648) (hb : -2147483648 ≤ b ∧ b < 2147483648) : Int32.ofInt a ≤ Int32.ofInt b ↔ a ≤ b := by
  rw [Int32.le_iff_toInt_le, i32_to ha.1 ha.2, i32_to hb.1 hb.2]
theorem i32_eq {a b : Int} (ha : -2147483648 ≤ a ∧ a < 2147483648) (hb : -2147483648 ≤ b ∧ b < 2147483648) : Int32.ofInt a = Int32.ofInt b ↔ a = b := by
  rw [← Int32.toInt_inj, i32_to ha.1 ha.2, i32_to hb.1 hb.2]
theorem i32_r0 : -2147483648 ≤ (0 : Int) ∧ (0 : Int) < 2147483648 := by decide
theorem i32_of (x : Int32) : Int32.ofInt x.toInt = x := Int32.ofInt_toInt x
theorem i32_rng (x : Int32) : -2147483648 ≤ x.toInt ∧ x.toInt < 2147483648 := ⟨Int32.le_toInt x, Int32.toInt_lt x⟩
theorem i32_nat (j : Nat) : Int32.ofInt (j : Int) = nI j := Int32.ofInt_eq_ofNat
theorem i32_cl {j : Nat} (h : j < 2 ^ 31) : (Int32.ofInt (j : Int)).toNatClampNeg = j := by rw [i32_nat]; exact nI_clamp h
theorem i32_in {j N : Nat} (h : j < N) (hN : N < 2 ^ 31) : vp_in (Int32.ofInt (j : Int)) N := by rw [i32_nat]; exact vp_in_nI h hN
theorem i64_of {a : Int} (h1 : -2147483648 ≤ a) (h2 : a < 2147483648) : (Int32.ofInt a).toInt64 = Int64.ofInt a := by
  rw [← Int64.toInt_inj, Int32.toInt_toInt64, i32_to h1 h2, Int64.toInt_ofInt, show Int64.size = 18446744073709551616 from rfl]
  exact (Int.bmod_eq_of_le (by omega) (by omega)).symm
/-! names of all cells -/
def ids : List Idn := [(0, 0), (1, 0), (2, 0), (3, 0), (4, 0), (15, 0), (20, 0), (30, 0)] ++ ((List.range 5).map (fun x => (5, x)) ++ ((List.range 5).map (fun x => (6, x)) ++ ((List.range 2).map (fun x => (7, x)) ++ ((List.range 2).map (fun x => (8, x)) ++ ((List.range 2).map (fun x => (9, x)) ++ ((List.range 2).map (fun x => (10, x)) ++ ((List.range 10).map (fun x => (11, x)) ++ ((List.range 10).map (fun x => (12, x)) ++ ((List.range 10).map (fun x => (13, x)) ++ ((List.range 60).map (fun x => (14, x)) ++ ([0, 1, 5, 6, 7, 8, 9, 10, 11, 12, 13, 14, 18, 20, 21, 25, 26, 27, 28, 29, 30] : List Nat).map (fun x => (21, x))))))))))))
theorem ids_nd : ids.Nodup := by decide +kernel
theorem mid_5 {x : Nat} (h : x < 5) : (5, x) ∈ ids := by simp [ids]; omega
theorem mid_6 {x : Nat} (h : x < 5) : (6, x) ∈ ids := by simp [ids]; omega
theorem mid_7 {x : Nat} (h : x < 2) : (7, x) ∈ ids := by simp [ids]; omega
theorem mid_8 {x : Nat} (h : x < 2) : (8, x) ∈ ids := by simp [ids]; omega
theorem mid_9 {x : Nat} (h : x < 2) : (9, x) ∈ ids := by simp [ids]; omega
theorem mid_10 {x : Nat} (h : x < 2) : (10, x) ∈ ids := by simp [ids]; omega
theorem mid_11 {x : Nat} (h : x < 10) : (11, x) ∈ ids := by simp [ids]; omega
theorem mid_12 {x : Nat} (h : x < 10) : (12, x) ∈ ids := by simp [ids]; omega
theorem mid_13 {x : Nat} (h : x < 10) : (13, x) ∈ ids := by simp [ids]; omega
theorem mid_14 {x : Nat} (h : x < 60) : (14, x) ∈ ids := by simp [ids]; omega
theorem nd_inj {l : List Idn} (h : l.Nodup) {i j : Nat} {a : Idn} (hi : l[i]? = some a) (hj : l[j]? = some a) : i = j := by
  have hp := List.pairwise_iff_getElem.mp h
  obtain ⟨h1, e1⟩ := List.getElem?_eq_some_iff.mp hi
  obtain ⟨h2, e2⟩ := List.getElem?_eq_some_iff.mp hj
  rcases Nat.lt_trichotomy i j with q | q | q
  · exact absurd (e1.trans e2.symm) (hp i j h1 h2 q)
  · exact q
  · exact absurd (e2.trans e1.symm) (hp j i h2 h1 q)
abbrev AdOK (ad : Idn → Nat) : Prop := ∀ i ∈ ids, ∀ j ∈ ids, ad i = ad j → i = j
def tysOf (cy : Nat → ClassId) : List (ClassId × FieldType) := [(cy 0, .int), (cy 1, .boolean), (cy 2, .object "PostingPlanner$Part"), (cy 3, .object "PostingPlanner$PlannedClause"), (cy 4, .object "PostingPlanner$PlannedLiteral"), (cy 5, .object "PostingPlanner$ToldClause"), (cy 6, .long)]
def wl (cy : Nat → ClassId) (ad : Idn → Nat) (h : Idn → AC) : va_W := ids.map (fun i => (ad i, te cy ad (h i)))
theorem wl_get {cy : Nat → ClassId} {ad : Idn → Nat} {h : Idn → AC} {i : Idn} (hi : i ∈ ids) : ∃ k : Nat, ids[k]? = some i ∧ (wl cy ad h)[k]? = some (ad i, te cy ad (h i)) := by
  obtain ⟨k, hk⟩ := List.getElem?_of_mem hi
  exact ⟨k, hk, by simp [wl, hk]⟩
theorem wl_D {cy : Nat → ClassId} {ad : Idn → Nat} {h : Idn → AC} {A : Nat → Prop} (hA : AdOK ad) (hin : ∀ i ∈ ids, A (ad i)) : va_D A (wl cy ad h) := by
  refine ⟨fun i j p q hp hq e => ?_, fun k q hk => ?_⟩
  · simp only [wl, List.getElem?_map] at hp hq
    cases ha : ids[i]? with
    | none => rw [ha] at hp; cases hp
    | some a =>
      cases hb : ids[j]? with
      | none => rw [hb] at hq; cases hq
      | some b =>
        rw [ha] at hp; rw [hb] at hq
        cases hp; cases hq
        have hab := hA a (List.mem_of_getElem? ha) b (List.mem_of_getElem? hb) e
        subst hab
        exact nd_inj ids_nd ha hb
  · simp only [wl, List.getElem?_map] at hk
    cases ha : ids[k]? with
    | none => rw [ha] at hk; cases hk
    | some a =>
      rw [ha] at hk
      cases hk
      exact hin a (List.mem_of_getElem? ha)
theorem wl_set {cy : Nat → ClassId} {ad : Idn → Nat} {h h' : Idn → AC} {i : Idn} {e : AC} {k : Nat} (hk : ids[k]? = some i) (hu : h' = upI h i e) : (wl cy ad h).set k (ad i, te cy ad e) = wl cy ad h' := by
  subst hu
  apply List.ext_getElem?
  intro j
  have hkl := (List.getElem?_eq_some_iff.mp hk)
  by_cases hj : j = k
  · subst hj
    have hl : j < (wl cy ad h).length := by simpa [wl] using hkl.1
    rw [List.getElem?_set_self hl]
    simp [wl, hk, upI]
  · rw [List.getElem?_set_ne (Ne.symm hj)]
    simp only [wl, List.getElem?_map]
    cases ha : ids[j]? with
    | none => rfl
    | some a =>
      have hne : a ≠ i := by
        intro q
        subst q
        exact hj (nd_inj ids_nd ha hk)
      simp [upI, hne]
/-! the nest words that static calls of the outer class's private methods need -/
def nwl : List (String × Nat × MethodName) := [(RX0, 80, yX10_firstOf), (RX3, 76, yX10_contraryOf), (RX4, 38, yX10_firstOf), (RX5, 40, yX10_isEnough), (RX7, 21, yX10_isLiteralTrue), (RX9, 29, yX10_isLiteralTrue), (RX9, 33, yX10_isEnough)]
def NwOK (U : State) : Prop := (∀ q ∈ nwl, va_Nw (.methodLinkNest q.1 q.2.1 q.2.2 "PostingPlanner") U) ∧ va_Nw (.castable RX3 "PostingPlanner$Part") U ∧ va_Nw (.castable RX4 "PostingPlanner$Part") U
theorem NwOK.moved {s U : State} (hW : s.WarmedH U.vm) (h : NwOK s) : NwOK U := ⟨fun q hq => va_Nw.warmM hW (h.1 q hq), va_Nw.warmC hW h.2.1, va_Nw.warmC hW h.2.2⟩
theorem NwOK.same {s U : State} (e : s.vm = U.vm) (h : NwOK s) : NwOK U := ⟨fun q hq => va_Nw.same rfl e (h.1 q hq), va_Nw.same rfl e h.2.1, va_Nw.same rfl e h.2.2⟩
/-! where a method stands -/
abbrev XT := (Program × Launch × Env × Room × State) × (MethodId × Array Value × List Frame × Method × Code) × (State → Prop) × (va_G × (Nat → ClassId) × (Idn → Nat)) × ((Addr → Prop) × Nat)
def At (X : XT) (cells slots pc : Nat) (lv : List (Nat × AV)) (st : List AV) (S : ST) : Prop := match X with
  | ((p, l, e, R, s), (m, args, below, meth, c), Q, (D, cy, ad), (A, nL)) => ∀ (H : Heap) (locs : List Loc) (ls : Array Slot), va_P D vwCl (wl cy ad (hp S)) H → va_S A s.heap H locs → lv_has ls nL (lv.map (fun q => (q.1, tv ad q.2))) → W p l e R s m args below meth c H locs cells slots Q (F0 m pc ls (st.map (tv ad)))
def rmN (n : Nat) : Room := { frames := n, cells := 0, slots := 0, locals := 40 * n }
def Cx (X : XT) (cc : ByteArray) (own : String) (Ts : List Cond) (n : Nat) : Prop := match X with
  | ((p, l, e, R, s), (m, args, below, meth, c), Q, (D, cy, ad), (A, nL)) => p.tables.exec = Jvm.exec ∧ c.code = cc ∧ c.maxLocals = nL ∧ s.vm.findClass own = some m.cls ∧ (∀ w ∈ Ts, w.before args s = true) ∧ va_K D vwCl (tysOf cy) s ∧ AdOK ad ∧ (∀ i ∈ ids, A (ad i)) ∧ (∀ q, s.heap.size ≤ q → A q) ∧ NwOK s ∧ (n ≤ R.frames ∧ 40 * n ≤ R.locals) ∧ nL < 64
theorem lk_mem {α : Type} {lv : List (Nat × α)} {i : Nat} {v : α} (h : lv.lookup i = some v) : (i, v) ∈ lv := by
  induction lv with
  | nil => cases h
  | cons a l ih =>
    obtain ⟨k, w⟩ := a
    rw [List.lookup_cons] at h
    by_cases hk : i = k
    · subst hk
      simp at h
      subst h
      exact List.mem_cons_self
    · have : (i == k) = false := by simp [hk]
      rw [this] at h
      exact List.mem_cons_of_mem _ (ih h)
theorem lk_at {ls : Array Slot} {nL : Nat} {ad : Idn → Nat} {lv : List (Nat × AV)} {i : Nat} {v : AV} (h : lv_has ls nL (lv.map (fun q => (q.1, tv ad q.2)))) (hk : lv.lookup i = some v) : ls[i]? = some (.val (tv ad v)) := h.2.2 (i, tv ad v) (List.mem_map.mpr ⟨(i, v), lk_mem hk, rfl⟩)
theorem ls_sub {ls : Array Slot} {nL : Nat} {ad : Idn → Nat} {lv lv' : List (Nat × AV)} (h : lv_has ls nL (lv.map (fun q => (q.1, tv ad q.2)))) (hs : ∀ q ∈ lv', q ∈ lv) : lv_has ls nL (lv'.map (fun q => (q.1, tv ad q.2))) := ⟨h.1, h.2.1, fun q hq => by
  obtain ⟨r, hr, rfl⟩ := List.mem_map.mp hq
  exact h.2.2 _ (List.mem_map.mpr ⟨r, hs r hr, rfl⟩)⟩
def stl (i : Nat) (v : AV) (lv : List (Nat × AV)) : List (Nat × AV) := (i, v) :: lv.filter (fun q => !(q.1 == i) && (!(catA v == 2 && q.1 == i + 1) && !(q.1 + 1 == i && catA q.2 == 2)))
theorem stl_1 {ad : Idn → Nat} {i : Nat} {v : AV} {lv : List (Nat × AV)} (hv : catA v = 1) : (i, tv ad v) :: (lv.map (fun q => (q.1, tv ad q.2))).filter (fun q => !(q.1 == i) && !(q.1 + 1 == i && q.2.category == 2)) = (stl i v lv).map (fun q => (q.1, tv ad q.2)) := by
  simp only [stl, List.map_cons, List.filter_map, Function.comp_def, tv_cat, hv]
  congr 2
theorem stl_2 {ad : Idn → Nat} {i : Nat} {v : AV} {lv : List (Nat × AV)} (hv : catA v = 2) : (i, tv ad v) :: (lv.map (fun q => (q.1, tv ad q.2))).filter (fun q => !(q.1 == i) && (!(q.1 == i + 1) && !(q.1 + 1 == i && q.2.category == 2))) = (stl i v lv).map (fun q => (q.1, tv ad q.2)) := by
  simp only [stl, List.map_cons, List.filter_map, Function.comp_def, tv_cat, hv]
  congr 2
section RULES
variable {X : XT} {cc : ByteArray} {own : String} {Ts : List Cond} {n cells slots pc : Nat} {lv : List (Nat × AV)} {st : List AV} {S : ST}
theorem At_lv {lv' : List (Nat × AV)} (hs : ∀ q ∈ lv', q ∈ lv) (k : At X cells slots pc lv' st S) : At X cells slots pc lv st S := by
  obtain ⟨⟨p, l, e, R, s⟩, ⟨m, args, below, meth, c⟩, Q, ⟨D, cy, ad⟩, ⟨A, nL⟩⟩ := X
  exact fun H locs ls hP hS hl => k H locs ls hP hS (ls_sub hl hs)
theorem At_pc {pc' : Nat} (e : pc = pc') (k : At X cells slots pc' lv st S) : At X cells slots pc lv st S := e ▸ k
theorem r_iload_n (C : Cx X cc own Ts n) {j : Fin 4} {i : Nat} {z : Int} (d : decode cc pc = .ok (.iload_n j, 1)) (hi : (j : Nat) = i) (h : lv.lookup i = some (vi z)) (k : At X cells slots (pc + 1) lv (vi z :: st) S) : At X cells slots pc lv st S := by
  obtain ⟨⟨p, l, e, R, s⟩, ⟨m, args, below, meth, c⟩, Q, ⟨D, cy, ad⟩, ⟨A, nL⟩⟩ := X
  obtain ⟨hx, hb, hml, hown, hts, hK, hAd, hAi, hAs, hNw, hR, hnL⟩ := C
  intro H locs ls hP hS hl
  exact lv_iload_n hx hb d hi (lk_at hl h) (k H locs ls hP hS hl)
theorem r_iload (C : Cx X cc own Ts n) {i : Nat} {z : Int} (d : decode cc pc = .ok (.iload i, 2)) (h : lv.lookup i = some (vi z)) (k : At X cells slots (pc + 2) lv (vi z :: st) S) : At X cells slots pc lv st S := by
  obtain ⟨⟨p, l, e, R, s⟩, ⟨m, args, below, meth, c⟩, Q, ⟨D, cy, ad⟩, ⟨A, nL⟩⟩ := X
  obtain ⟨hx, hb, hml, hown, hts, hK, hAd, hAi, hAs, hNw, hR, hnL⟩ := C
  intro H locs ls hP hS hl
  exact lv_iload hx hb d (lk_at hl h) (k H locs ls hP hS hl)
theorem r_aload_n (C : Cx X cc own Ts n) {j : Fin 4} {i : Nat} {z : Option Idn} (d : decode cc pc = .ok (.aload_n j, 1)) (hi : (j : Nat) = i) (h : lv.lookup i = some (vr z)) (k : At X cells slots (pc + 1) lv (vr z :: st) S) : At X cells slots pc lv st S := by
  obtain ⟨⟨p, l, e, R, s⟩, ⟨m, args, below, meth, c⟩, Q, ⟨D, cy, ad⟩, ⟨A, nL⟩⟩ := X
  obtain ⟨hx, hb, hml, hown, hts, hK, hAd, hAi, hAs, hNw, hR, hnL⟩ := C
  intro H locs ls hP hS hl
  cases z with
  | none => exact lv_aload_nN hx hb d hi (lk_at hl h) (k H locs ls hP hS hl)
  | some z => exact lv_aload_n hx hb d hi (lk_at hl h) (k H locs ls hP hS hl)
theorem r_aload (C : Cx X cc own Ts n) {i : Nat} {z : Option Idn} (d : decode cc pc = .ok (.aload i, 2)) (h : lv.lookup i = some (vr z)) (k : At X cells slots (pc + 2) lv (vr z :: st) S) : At X cells slots pc lv st S := by
  obtain ⟨⟨p, l, e, R, s⟩, ⟨m, args, below, meth, c⟩, Q, ⟨D, cy, ad⟩, ⟨A, nL⟩⟩ := X
  obtain ⟨hx, hb, hml, hown, hts, hK, hAd, hAi, hAs, hNw, hR, hnL⟩ := C
  intro H locs ls hP hS hl
  cases z with
  | none => exact lv_aloadN hx hb d (lk_at hl h) (k H locs ls hP hS hl)
  | some z => exact lv_aload hx hb d (lk_at hl h) (k H locs ls hP hS hl)
theorem r_lload_n (C : Cx X cc own Ts n) {j : Fin 4} {i : Nat} {z : Int} (d : decode cc pc = .ok (.lload_n j, 1)) (hi : (j : Nat) = i) (h : lv.lookup i = some (vl z)) (k : At X cells slots (pc + 1) lv (vl z :: st) S) : At X cells slots pc lv st S := by
  obtain ⟨⟨p, l, e, R, s⟩, ⟨m, args, below, meth, c⟩, Q, ⟨D, cy, ad⟩, ⟨A, nL⟩⟩ := X
  obtain ⟨hx, hb, hml, hown, hts, hK, hAd, hAi, hAs, hNw, hR, hnL⟩ := C
  intro H locs ls hP hS hl
  exact lv_lload_n hx hb d hi (lk_at hl h) (k H locs ls hP hS hl)
theorem r_lload (C : Cx X cc own Ts n) {i : Nat} {z : Int} (d : decode cc pc = .ok (.lload i, 2)) (h : lv.lookup i = some (vl z)) (k : At X cells slots (pc + 2) lv (vl z :: st) S) : At X cells slots pc lv st S := by
  obtain ⟨⟨p, l, e, R, s⟩, ⟨m, args, below, meth, c⟩, Q, ⟨D, cy, ad⟩, ⟨A, nL⟩⟩ := X
  obtain ⟨hx, hb, hml, hown, hts, hK, hAd, hAi, hAs, hNw, hR, hnL⟩ := C
  intro H locs ls hP hS hl
  exact lv_lload hx hb d (lk_at hl h) (k H locs ls hP hS hl)
theorem r_istore_n (C : Cx X cc own Ts n) {j : Fin 4} {i : Nat} {z : Int} {lv' : List (Nat × AV)} (d : decode cc pc = .ok (.istore_n j, 1)) (hi : (j : Nat) = i) (hn : i < X.2.2.2.2.2) (hv : stl i (vi z) lv = lv') (k : At X cells slots (pc + 1) lv' st S) : At X cells slots pc lv (vi z :: st) S := by
  obtain ⟨⟨p, l, e, R, s⟩, ⟨m, args, below, meth, c⟩, Q, ⟨D, cy, ad⟩, ⟨A, nL⟩⟩ := X
  obtain ⟨hx, hb, hml, hown, hts, hK, hAd, hAi, hAs, hNw, hR, hnL⟩ := C
  intro H locs ls hP hS hl
  exact lv_istore_n hx hb d hi hl hn (stl_1 (v := vi z) rfl) (fun ls hl => k H locs ls hP hS (hv ▸ hl))
theorem r_istore (C : Cx X cc own Ts n) {i : Nat} {z : Int} {lv' : List (Nat × AV)} (d : decode cc pc = .ok (.istore i, 2)) (hn : i < X.2.2.2.2.2) (hv : stl i (vi z) lv = lv') (k : At X cells slots (pc + 2) lv' st S) : At X cells slots pc lv (vi z :: st) S := by
  obtain ⟨⟨p, l, e, R, s⟩, ⟨m, args, below, meth, c⟩, Q, ⟨D, cy, ad⟩, ⟨A, nL⟩⟩ := X
  obtain ⟨hx, hb, hml, hown, hts, hK, hAd, hAi, hAs, hNw, hR, hnL⟩ := C
  intro H locs ls hP hS hl
  exact lv_istore hx hb d hl hn (stl_1 (v := vi z) rfl) (fun ls hl => k H locs ls hP hS (hv ▸ hl))
theorem r_astore_n (C : Cx X cc own Ts n) {j : Fin 4} {i : Nat} {z : Option Idn} {lv' : List (Nat × AV)} (d : decode cc pc = .ok (.astore_n j, 1)) (hi : (j : Nat) = i) (hn : i < X.2.2.2.2.2) (hv : stl i (vr z) lv = lv') (k : At X cells slots (pc + 1) lv' st S) : At X cells slots pc lv (vr z :: st) S := by
  obtain ⟨⟨p, l, e, R, s⟩, ⟨m, args, below, meth, c⟩, Q, ⟨D, cy, ad⟩, ⟨A, nL⟩⟩ := X
  obtain ⟨hx, hb, hml, hown, hts, hK, hAd, hAi, hAs, hNw, hR, hnL⟩ := C
  intro H locs ls hP hS hl
  cases z with
  | none => exact lv_astore_nN hx hb d hi hl hn (stl_1 (v := vr none) rfl) (fun ls hl => k H locs ls hP hS (hv ▸ hl))
  | some z => exact lv_astore_n hx hb d hi hl hn (stl_1 (v := vr (some z)) rfl) (fun ls hl => k H locs ls hP hS (hv ▸ hl))
theorem r_astore (C : Cx X cc own Ts n) {i : Nat} {z : Option Idn} {lv' : List (Nat × AV)} (d : decode cc pc = .ok (.astore i, 2)) (hn : i < X.2.2.2.2.2) (hv : stl i (vr z) lv = lv') (k : At X cells slots (pc + 2) lv' st S) : At X cells slots pc lv (vr z :: st) S := by
  obtain ⟨⟨p, l, e, R, s⟩, ⟨m, args, below, meth, c⟩, Q, ⟨D, cy, ad⟩, ⟨A, nL⟩⟩ := X
  obtain ⟨hx, hb, hml, hown, hts, hK, hAd, hAi, hAs, hNw, hR, hnL⟩ := C
  intro H locs ls hP hS hl
  cases z with
  | none => exact lv_astoreN hx hb d hl hn (stl_1 (v := vr none) rfl) (fun ls hl => k H locs ls hP hS (hv ▸ hl))
  | some z => exact lv_astore hx hb d hl hn (stl_1 (v := vr (some z)) rfl) (fun ls hl => k H locs ls hP hS (hv ▸ hl))
theorem r_lstore_n (C : Cx X cc own Ts n) {j : Fin 4} {i : Nat} {z : Int} {lv' : List (Nat × AV)} (d : decode cc pc = .ok (.lstore_n j, 1)) (hi : (j : Nat) = i) (hn : i + 1 < X.2.2.2.2.2) (hv : stl i (vl z) lv = lv') (k : At X cells slots (pc + 1) lv' st S) : At X cells slots pc lv (vl z :: st) S := by
  obtain ⟨⟨p, l, e, R, s⟩, ⟨m, args, below, meth, c⟩, Q, ⟨D, cy, ad⟩, ⟨A, nL⟩⟩ := X
  obtain ⟨hx, hb, hml, hown, hts, hK, hAd, hAi, hAs, hNw, hR, hnL⟩ := C
  intro H locs ls hP hS hl
  exact lv_lstore_n hx hb d hi hl hn (stl_2 (v := vl z) rfl) (fun ls hl => k H locs ls hP hS (hv ▸ hl))
theorem r_lstore (C : Cx X cc own Ts n) {i : Nat} {z : Int} {lv' : List (Nat × AV)} (d : decode cc pc = .ok (.lstore i, 2)) (hn : i + 1 < X.2.2.2.2.2) (hv : stl i (vl z) lv = lv') (k : At X cells slots (pc + 2) lv' st S) : At X cells slots pc lv (vl z :: st) S := by
  obtain ⟨⟨p, l, e, R, s⟩, ⟨m, args, below, meth, c⟩, Q, ⟨D, cy, ad⟩, ⟨A, nL⟩⟩ := X
  obtain ⟨hx, hb, hml, hown, hts, hK, hAd, hAi, hAs, hNw, hR, hnL⟩ := C
  intro H locs ls hP hS hl
  exact lv_lstore hx hb d hl hn (stl_2 (v := vl z) rfl) (fun ls hl => k H locs ls hP hS (hv ▸ hl))
theorem r_iinc (C : Cx X cc own Ts n) {i : Nat} {a z : Int} {lv' : List (Nat × AV)} (d : decode cc pc = .ok (.iinc i a, 3)) (h : lv.lookup i = some (vi z)) (hn : i < X.2.2.2.2.2) (hv : stl i (vi (z + a)) lv = lv') (k : At X cells slots (pc + 3) lv' st S) : At X cells slots pc lv st S := by
  obtain ⟨⟨p, l, e, R, s⟩, ⟨m, args, below, meth, c⟩, Q, ⟨D, cy, ad⟩, ⟨A, nL⟩⟩ := X
  obtain ⟨hx, hb, hml, hown, hts, hK, hAd, hAi, hAs, hNw, hR, hnL⟩ := C
  intro H locs ls hP hS hl
  obtain ⟨q, hq⟩ := List.getElem?_of_mem (List.mem_map.mpr ⟨(i, vi z), lk_mem h, rfl⟩ : (i, tv ad (vi z)) ∈ lv.map (fun q => (q.1, tv ad q.2)))
  exact lv_iinc hx hb d hl (k := q) hq (Int32.ofInt_add z a).symm hn (stl_1 (v := vi (z + a)) rfl) (fun ls hl => k H locs ls hP hS (hv ▸ hl))
theorem r_iconst (C : Cx X cc own Ts n) {z : Int} (d : decode cc pc = .ok (.iconst z, 1)) (k : At X cells slots (pc + 1) lv (vi z :: st) S) : At X cells slots pc lv st S := by
  obtain ⟨⟨p, l, e, R, s⟩, ⟨m, args, below, meth, c⟩, Q, ⟨D, cy, ad⟩, ⟨A, nL⟩⟩ := X
  obtain ⟨hx, hb, hml, hown, hts, hK, hAd, hAi, hAs, hNw, hR, hnL⟩ := C
  intro H locs ls hP hS hl
  exact lv_iconst hx hb d rfl (k H locs ls hP hS hl)
theorem r_bipush (C : Cx X cc own Ts n) {z : Int} (d : decode cc pc = .ok (.bipush z, 2)) (hz : (Int8.ofInt z).toInt32 = Int32.ofInt z) (k : At X cells slots (pc + 2) lv (vi z :: st) S) : At X cells slots pc lv st S := by
  obtain ⟨⟨p, l, e, R, s⟩, ⟨m, args, below, meth, c⟩, Q, ⟨D, cy, ad⟩, ⟨A, nL⟩⟩ := X
  obtain ⟨hx, hb, hml, hown, hts, hK, hAd, hAi, hAs, hNw, hR, hnL⟩ := C
  intro H locs ls hP hS hl
  exact lv_bipush hx hb d hz (k H locs ls hP hS hl)
theorem r_sipush (C : Cx X cc own Ts n) {z : Int} (d : decode cc pc = .ok (.sipush z, 3)) (hz : (Int16.ofInt z).toInt32 = Int32.ofInt z) (k : At X cells slots (pc + 3) lv (vi z :: st) S) : At X cells slots pc lv st S := by
  obtain ⟨⟨p, l, e, R, s⟩, ⟨m, args, below, meth, c⟩, Q, ⟨D, cy, ad⟩, ⟨A, nL⟩⟩ := X
  obtain ⟨hx, hb, hml, hown, hts, hK, hAd, hAi, hAs, hNw, hR, hnL⟩ := C
  intro H locs ls hP hS hl
  exact lv_sipush hx hb d hz (k H locs ls hP hS hl)
theorem r_lconst (C : Cx X cc own Ts n) {z : Fin 2} (d : decode cc pc = .ok (.lconst z, 1)) (k : At X cells slots (pc + 1) lv (vl ((z : Nat) : Int) :: st) S) : At X cells slots pc lv st S := by
  obtain ⟨⟨p, l, e, R, s⟩, ⟨m, args, below, meth, c⟩, Q, ⟨D, cy, ad⟩, ⟨A, nL⟩⟩ := X
  obtain ⟨hx, hb, hml, hown, hts, hK, hAd, hAi, hAs, hNw, hR, hnL⟩ := C
  intro H locs ls hP hS hl
  exact lv_lconst hx hb d (Int64.ofInt_eq_ofNat).symm (k H locs ls hP hS hl)
theorem r_null (C : Cx X cc own Ts n) (d : decode cc pc = .ok (.aconst_null, 1)) (k : At X cells slots (pc + 1) lv (vr none :: st) S) : At X cells slots pc lv st S := by
  obtain ⟨⟨p, l, e, R, s⟩, ⟨m, args, below, meth, c⟩, Q, ⟨D, cy, ad⟩, ⟨A, nL⟩⟩ := X
  obtain ⟨hx, hb, hml, hown, hts, hK, hAd, hAi, hAs, hNw, hR, hnL⟩ := C
  intro H locs ls hP hS hl
  exact lv_null hx hb d (k H locs ls hP hS hl)
theorem r_dup (C : Cx X cc own Ts n) {v : AV} (hv : catA v = 1) (d : decode cc pc = .ok (.dup, 1)) (k : At X cells slots (pc + 1) lv (v :: v :: st) S) : At X cells slots pc lv (v :: st) S := by
  obtain ⟨⟨p, l, e, R, s⟩, ⟨m, args, below, meth, c⟩, Q, ⟨D, cy, ad⟩, ⟨A, nL⟩⟩ := X
  obtain ⟨hx, hb, hml, hown, hts, hK, hAd, hAi, hAs, hNw, hR, hnL⟩ := C
  intro H locs ls hP hS hl
  exact lv_dup hx hb d ((tv_cat ad v).trans hv) (k H locs ls hP hS hl)
theorem r_pop (C : Cx X cc own Ts n) {v : AV} (hv : catA v = 1) (d : decode cc pc = .ok (.pop, 1)) (k : At X cells slots (pc + 1) lv st S) : At X cells slots pc lv (v :: st) S := by
  obtain ⟨⟨p, l, e, R, s⟩, ⟨m, args, below, meth, c⟩, Q, ⟨D, cy, ad⟩, ⟨A, nL⟩⟩ := X
  obtain ⟨hx, hb, hml, hown, hts, hK, hAd, hAi, hAs, hNw, hR, hnL⟩ := C
  intro H locs ls hP hS hl
  exact lv_pop hx hb d ((tv_cat ad v).trans hv) (k H locs ls hP hS hl)
theorem r_iadd (C : Cx X cc own Ts n) {a b : Int} (d : decode cc pc = .ok (.iadd, 1)) (k : At X cells slots (pc + 1) lv (vi (a + b) :: st) S) : At X cells slots pc lv (vi b :: vi a :: st) S := by
  obtain ⟨⟨p, l, e, R, s⟩, ⟨m, args, below, meth, c⟩, Q, ⟨D, cy, ad⟩, ⟨A, nL⟩⟩ := X
  obtain ⟨hx, hb, hml, hown, hts, hK, hAd, hAi, hAs, hNw, hR, hnL⟩ := C
  intro H locs ls hP hS hl
  have h := k H locs ls hP hS hl
  simp only [List.map_cons, tv, Int32.ofInt_add] at h
  exact lv_iadd hx hb d h
theorem r_isub (C : Cx X cc own Ts n) {a b : Int} (d : decode cc pc = .ok (.isub, 1)) (k : At X cells slots (pc + 1) lv (vi (a - b) :: st) S) : At X cells slots pc lv (vi b :: vi a :: st) S := by
  obtain ⟨⟨p, l, e, R, s⟩, ⟨m, args, below, meth, c⟩, Q, ⟨D, cy, ad⟩, ⟨A, nL⟩⟩ := X
  obtain ⟨hx, hb, hml, hown, hts, hK, hAd, hAi, hAs, hNw, hR, hnL⟩ := C
  intro H locs ls hP hS hl
  have h := k H locs ls hP hS hl
  simp only [List.map_cons, tv, Int32.ofInt_sub] at h
  exact lv_isub hx hb d h
theorem r_imul (C : Cx X cc own Ts n) {a b : Int} (d : decode cc pc = .ok (.imul, 1)) (k : At X cells slots (pc + 1) lv (vi (a * b) :: st) S) : At X cells slots pc lv (vi b :: vi a :: st) S := by
  obtain ⟨⟨p, l, e, R, s⟩, ⟨m, args, below, meth, c⟩, Q, ⟨D, cy, ad⟩, ⟨A, nL⟩⟩ := X
  obtain ⟨hx, hb, hml, hown, hts, hK, hAd, hAi, hAs, hNw, hR, hnL⟩ := C
  intro H locs ls hP hS hl
  have h := k H locs ls hP hS hl
  simp only [List.map_cons, tv, Int32.ofInt_mul] at h
  exact lv_imul hx hb d h
theorem At_val {v v' : AV} (e : v = v') (k : At X cells slots pc lv (v' :: st) S) : At X cells slots pc lv (v :: st) S := e ▸ k
theorem r_iand (C : Cx X cc own Ts n) {a b z : Int} (d : decode cc pc = .ok (.iand, 1)) (hz : Int32.ofInt a &&& Int32.ofInt b = Int32.ofInt z) (k : At X cells slots (pc + 1) lv (vi z :: st) S) : At X cells slots pc lv (vi b :: vi a :: st) S := by
  obtain ⟨⟨p, l, e, R, s⟩, ⟨m, args, below, meth, c⟩, Q, ⟨D, cy, ad⟩, ⟨A, nL⟩⟩ := X
  obtain ⟨hx, hb, hml, hown, hts, hK, hAd, hAi, hAs, hNw, hR, hnL⟩ := C
  intro H locs ls hP hS hl
  have h := k H locs ls hP hS hl
  simp only [List.map_cons, tv, ← hz] at h
  exact lv_iand hx hb d h
theorem r_ior (C : Cx X cc own Ts n) {a b z : Int} (d : decode cc pc = .ok (.ior, 1)) (hz : Int32.ofInt a ||| Int32.ofInt b = Int32.ofInt z) (k : At X cells slots (pc + 1) lv (vi z :: st) S) : At X cells slots pc lv (vi b :: vi a :: st) S := by
  obtain ⟨⟨p, l, e, R, s⟩, ⟨m, args, below, meth, c⟩, Q, ⟨D, cy, ad⟩, ⟨A, nL⟩⟩ := X
  obtain ⟨hx, hb, hml, hown, hts, hK, hAd, hAi, hAs, hNw, hR, hnL⟩ := C
  intro H locs ls hP hS hl
  have h := k H locs ls hP hS hl
  simp only [List.map_cons, tv, ← hz] at h
  exact lv_ior hx hb d h
theorem r_ixor (C : Cx X cc own Ts n) {a b z : Int} (d : decode cc pc = .ok (.ixor, 1)) (hz : Int32.ofInt a ^^^ Int32.ofInt b = Int32.ofInt z) (k : At X cells slots (pc + 1) lv (vi z :: st) S) : At X cells slots pc lv (vi b :: vi a :: st) S := by
  obtain ⟨⟨p, l, e, R, s⟩, ⟨m, args, below, meth, c⟩, Q, ⟨D, cy, ad⟩, ⟨A, nL⟩⟩ := X
  obtain ⟨hx, hb, hml, hown, hts, hK, hAd, hAi, hAs, hNw, hR, hnL⟩ := C
  intro H locs ls hP hS hl
  have h := k H locs ls hP hS hl
  simp only [List.map_cons, tv, ← hz] at h
  exact lv_ixor hx hb d h
theorem r_idiv (C : Cx X cc own Ts n) {a b z : Int} (d : decode cc pc = .ok (.idiv, 1)) (hb0 : ¬ Int32.ofInt b = 0) (hz : Int32.ofInt a / Int32.ofInt b = Int32.ofInt z) (k : At X cells slots (pc + 1) lv (vi z :: st) S) : At X cells slots pc lv (vi b :: vi a :: st) S := by
  obtain ⟨⟨p, l, e, R, s⟩, ⟨m, args, below, meth, c⟩, Q, ⟨D, cy, ad⟩, ⟨A, nL⟩⟩ := X
  obtain ⟨hx, hb, hml, hown, hts, hK, hAd, hAi, hAs, hNw, hR, hnL⟩ := C
  intro H locs ls hP hS hl
  have h := k H locs ls hP hS hl
  simp only [List.map_cons, tv, ← hz] at h
  exact lv_idiv hx hb d hb0 h
theorem r_irem (C : Cx X cc own Ts n) {a b z : Int} (d : decode cc pc = .ok (.irem, 1)) (hb0 : ¬ Int32.ofInt b = 0) (hz : Int32.ofInt a - Int32.ofInt a / Int32.ofInt b * Int32.ofInt b = Int32.ofInt z) (k : At X cells slots (pc + 1) lv (vi z :: st) S) : At X cells slots pc lv (vi b :: vi a :: st) S := by
  obtain ⟨⟨p, l, e, R, s⟩, ⟨m, args, below, meth, c⟩, Q, ⟨D, cy, ad⟩, ⟨A, nL⟩⟩ := X
  obtain ⟨hx, hb, hml, hown, hts, hK, hAd, hAi, hAs, hNw, hR, hnL⟩ := C
  intro H locs ls hP hS hl
  have h := k H locs ls hP hS hl
  simp only [List.map_cons, tv, ← hz] at h
  exact lv_irem hx hb d hb0 h
theorem r_ishr (C : Cx X cc own Ts n) {a b z : Int} (d : decode cc pc = .ok (.ishr, 1)) (hz : Int32.ofInt a >>> (Int32.ofInt b &&& 31) = Int32.ofInt z) (k : At X cells slots (pc + 1) lv (vi z :: st) S) : At X cells slots pc lv (vi b :: vi a :: st) S := by
  obtain ⟨⟨p, l, e, R, s⟩, ⟨m, args, below, meth, c⟩, Q, ⟨D, cy, ad⟩, ⟨A, nL⟩⟩ := X
  obtain ⟨hx, hb, hml, hown, hts, hK, hAd, hAi, hAs, hNw, hR, hnL⟩ := C
  intro H locs ls hP hS hl
  have h := k H locs ls hP hS hl
  simp only [List.map_cons, tv, ← hz] at h
  exact lv_ishr hx hb d h
theorem r_lshl (C : Cx X cc own Ts n) {a b z : Int} (d : decode cc pc = .ok (.lshl, 1)) (hz : Int64.ofInt a <<< ((Int32.ofInt b).toInt64 &&& 63) = Int64.ofInt z) (k : At X cells slots (pc + 1) lv (vl z :: st) S) : At X cells slots pc lv (vi b :: vl a :: st) S := by
  obtain ⟨⟨p, l, e, R, s⟩, ⟨m, args, below, meth, c⟩, Q, ⟨D, cy, ad⟩, ⟨A, nL⟩⟩ := X
  obtain ⟨hx, hb, hml, hown, hts, hK, hAd, hAi, hAs, hNw, hR, hnL⟩ := C
  intro H locs ls hP hS hl
  exact lv_lshl hx hb d hz (k H locs ls hP hS hl)
theorem r_lshr (C : Cx X cc own Ts n) {a b z : Int} (d : decode cc pc = .ok (.lshr, 1)) (hz : Int64.ofInt a >>> ((Int32.ofInt b).toInt64 &&& 63) = Int64.ofInt z) (k : At X cells slots (pc + 1) lv (vl z :: st) S) : At X cells slots pc lv (vi b :: vl a :: st) S := by
  obtain ⟨⟨p, l, e, R, s⟩, ⟨m, args, below, meth, c⟩, Q, ⟨D, cy, ad⟩, ⟨A, nL⟩⟩ := X
  obtain ⟨hx, hb, hml, hown, hts, hK, hAd, hAi, hAs, hNw, hR, hnL⟩ := C
  intro H locs ls hP hS hl
  exact lv_lshr hx hb d hz (k H locs ls hP hS hl)
theorem r_lushr (C : Cx X cc own Ts n) {a b z : Int} (d : decode cc pc = .ok (.lushr, 1)) (hz : ((Int64.ofInt a).toUInt64 >>> ((Int32.ofInt b).toInt64.toUInt64 &&& Int64.toUInt64 63)).toInt64 = Int64.ofInt z) (k : At X cells slots (pc + 1) lv (vl z :: st) S) : At X cells slots pc lv (vi b :: vl a :: st) S := by
  obtain ⟨⟨p, l, e, R, s⟩, ⟨m, args, below, meth, c⟩, Q, ⟨D, cy, ad⟩, ⟨A, nL⟩⟩ := X
  obtain ⟨hx, hb, hml, hown, hts, hK, hAd, hAi, hAs, hNw, hR, hnL⟩ := C
  intro H locs ls hP hS hl
  exact lv_lushr hx hb d hz (k H locs ls hP hS hl)
theorem r_land (C : Cx X cc own Ts n) {a b z : Int} (d : decode cc pc = .ok (.land, 1)) (hz : Int64.ofInt a &&& Int64.ofInt b = Int64.ofInt z) (k : At X cells slots (pc + 1) lv (vl z :: st) S) : At X cells slots pc lv (vl b :: vl a :: st) S := by
  obtain ⟨⟨p, l, e, R, s⟩, ⟨m, args, below, meth, c⟩, Q, ⟨D, cy, ad⟩, ⟨A, nL⟩⟩ := X
  obtain ⟨hx, hb, hml, hown, hts, hK, hAd, hAi, hAs, hNw, hR, hnL⟩ := C
  intro H locs ls hP hS hl
  have h := k H locs ls hP hS hl
  simp only [List.map_cons, tv, ← hz] at h
  exact lv_land hx hb d h
theorem r_lor (C : Cx X cc own Ts n) {a b z : Int} (d : decode cc pc = .ok (.lor, 1)) (hz : Int64.ofInt a ||| Int64.ofInt b = Int64.ofInt z) (k : At X cells slots (pc + 1) lv (vl z :: st) S) : At X cells slots pc lv (vl b :: vl a :: st) S := by
  obtain ⟨⟨p, l, e, R, s⟩, ⟨m, args, below, meth, c⟩, Q, ⟨D, cy, ad⟩, ⟨A, nL⟩⟩ := X
  obtain ⟨hx, hb, hml, hown, hts, hK, hAd, hAi, hAs, hNw, hR, hnL⟩ := C
  intro H locs ls hP hS hl
  have h := k H locs ls hP hS hl
  simp only [List.map_cons, tv, ← hz] at h
  exact lv_lor hx hb d h
theorem r_ladd (C : Cx X cc own Ts n) {a b z : Int} (d : decode cc pc = .ok (.ladd, 1)) (hz : Int64.ofInt a + Int64.ofInt b = Int64.ofInt z) (k : At X cells slots (pc + 1) lv (vl z :: st) S) : At X cells slots pc lv (vl b :: vl a :: st) S := by
  obtain ⟨⟨p, l, e, R, s⟩, ⟨m, args, below, meth, c⟩, Q, ⟨D, cy, ad⟩, ⟨A, nL⟩⟩ := X
  obtain ⟨hx, hb, hml, hown, hts, hK, hAd, hAi, hAs, hNw, hR, hnL⟩ := C
  intro H locs ls hP hS hl
  have h := k H locs ls hP hS hl
  simp only [List.map_cons, tv, ← hz] at h
  exact lv_ladd hx hb d h
theorem r_lsub (C : Cx X cc own Ts n) {a b z : Int} (d : decode cc pc = .ok (.lsub, 1)) (hz : Int64.ofInt a - Int64.ofInt b = Int64.ofInt z) (k : At X cells slots (pc + 1) lv (vl z :: st) S) : At X cells slots pc lv (vl b :: vl a :: st) S := by
  obtain ⟨⟨p, l, e, R, s⟩, ⟨m, args, below, meth, c⟩, Q, ⟨D, cy, ad⟩, ⟨A, nL⟩⟩ := X
  obtain ⟨hx, hb, hml, hown, hts, hK, hAd, hAi, hAs, hNw, hR, hnL⟩ := C
  intro H locs ls hP hS hl
  have h := k H locs ls hP hS hl
  simp only [List.map_cons, tv, ← hz] at h
  exact lv_lsub hx hb d h
theorem r_i2l (C : Cx X cc own Ts n) {a : Int} (d : decode cc pc = .ok (.i2l, 1)) (ha : -2147483648 ≤ a ∧ a < 2147483648) (k : At X cells slots (pc + 1) lv (vl a :: st) S) : At X cells slots pc lv (vi a :: st) S := by
  obtain ⟨⟨p, l, e, R, s⟩, ⟨m, args, below, meth, c⟩, Q, ⟨D, cy, ad⟩, ⟨A, nL⟩⟩ := X
  obtain ⟨hx, hb, hml, hown, hts, hK, hAd, hAi, hAs, hNw, hR, hnL⟩ := C
  intro H locs ls hP hS hl
  exact lv_i2l hx hb d (i64_of ha.1 ha.2) (k H locs ls hP hS hl)
theorem r_l2i (C : Cx X cc own Ts n) {a z : Int} (d : decode cc pc = .ok (.l2i, 1)) (hz : (Int64.ofInt a).toInt32 = Int32.ofInt z) (k : At X cells slots (pc + 1) lv (vi z :: st) S) : At X cells slots pc lv (vl a :: st) S := by
  obtain ⟨⟨p, l, e, R, s⟩, ⟨m, args, below, meth, c⟩, Q, ⟨D, cy, ad⟩, ⟨A, nL⟩⟩ := X
  obtain ⟨hx, hb, hml, hown, hts, hK, hAd, hAi, hAs, hNw, hR, hnL⟩ := C
  intro H locs ls hP hS hl
  exact lv_l2i hx hb d hz (k H locs ls hP hS hl)
theorem r_lcmp (C : Cx X cc own Ts n) {a b z : Int} (d : decode cc pc = .ok (.lcmp, 1)) (hz : lg_cmp (Int64.ofInt a) (Int64.ofInt b) = Int32.ofInt z) (k : At X cells slots (pc + 1) lv (vi z :: st) S) : At X cells slots pc lv (vl b :: vl a :: st) S := by
  obtain ⟨⟨p, l, e, R, s⟩, ⟨m, args, below, meth, c⟩, Q, ⟨D, cy, ad⟩, ⟨A, nL⟩⟩ := X
  obtain ⟨hx, hb, hml, hown, hts, hK, hAd, hAi, hAs, hNw, hR, hnL⟩ := C
  intro H locs ls hP hS hl
  have h := k H locs ls hP hS hl
  simp only [List.map_cons, tv, ← hz] at h
  exact W.lcmp hx hb d h
theorem r_ldc2 (C : Cx X cc own Ts n) {index : Nat} {v : Int64} {z : Int} (d : decode cc pc = .ok (.ldc2_w index, 3)) (hc : Cond.constantLong own index v ∈ Ts) (hz : v = Int64.ofInt z) (k : At X cells slots (pc + 3) lv (vl z :: st) S) : At X cells slots pc lv st S := by
  obtain ⟨⟨p, l, e, R, s⟩, ⟨m, args, below, meth, c⟩, Q, ⟨D, cy, ad⟩, ⟨A, nL⟩⟩ := X
  obtain ⟨hx, hb, hml, hown, hts, hK, hAd, hAi, hAs, hNw, hR, hnL⟩ := C
  intro H locs ls hP hS hl
  have h := k H locs ls hP hS hl
  simp only [List.map_cons, tv, ← hz] at h
  exact lv_ldc2 hx hb hown (hts _ hc) d h
theorem r_goto (C : Cx X cc own Ts n) {off : Int} {tgt : Nat} (d : decode cc pc = .ok (.goto off, 3)) (ht : (pc : Int) + off = (tgt : Int)) (k : At X cells slots tgt lv st S) : At X cells slots pc lv st S := by
  obtain ⟨⟨p, l, e, R, s⟩, ⟨m, args, below, meth, c⟩, Q, ⟨D, cy, ad⟩, ⟨A, nL⟩⟩ := X
  obtain ⟨hx, hb, hml, hown, hts, hK, hAd, hAi, hAs, hNw, hR, hnL⟩ := C
  intro H locs ls hP hS hl
  exact lv_goto hx hb d ht (k H locs ls hP hS hl)
theorem r_icmp_eq (C : Cx X cc own Ts n) {a b : Int} {off : Int} {tgt : Nat} (d : decode cc pc = .ok (.if_icmp .eq off, 3)) (ht : (pc : Int) + off = (tgt : Int)) (ha : -2147483648 ≤ a ∧ a < 2147483648) (hb2 : -2147483648 ≤ b ∧ b < 2147483648) (kt : a = b → At X cells slots tgt lv st S) (kf : ¬ a = b → At X cells slots (pc + 3) lv st S) : At X cells slots pc lv (vi b :: vi a :: st) S := by
  obtain ⟨⟨p, l, e, R, s⟩, ⟨m, args, below, meth, c⟩, Q, ⟨D, cy, ad⟩, ⟨A, nL⟩⟩ := X
  obtain ⟨hx, hb, hml, hown, hts, hK, hAd, hAi, hAs, hNw, hR, hnL⟩ := C
  intro H locs ls hP hS hl
  exact lv_icmp_eq hx hb d ht (fun q => kt ((i32_eq ha hb2).mp q) H locs ls hP hS hl) (fun q => kf (fun z => q ((i32_eq ha hb2).mpr z)) H locs ls hP hS hl)
theorem r_if_eq (C : Cx X cc own Ts n) {a : Int} {off : Int} {tgt : Nat} (d : decode cc pc = .ok (.ifCond .eq off, 3)) (ht : (pc : Int) + off = (tgt : Int)) (ha : -2147483648 ≤ a ∧ a < 2147483648) (kt : a = 0 → At X cells slots tgt lv st S) (kf : ¬ a = 0 → At X cells slots (pc + 3) lv st S) : At X cells slots pc lv (vi a :: st) S := by
  obtain ⟨⟨p, l, e, R, s⟩, ⟨m, args, below, meth, c⟩, Q, ⟨D, cy, ad⟩, ⟨A, nL⟩⟩ := X
  obtain ⟨hx, hb, hml, hown, hts, hK, hAd, hAi, hAs, hNw, hR, hnL⟩ := C
  intro H locs ls hP hS hl
  exact lv_if_eq hx hb d ht (fun q => kt ((i32_eq ha i32_r0).mp q) H locs ls hP hS hl) (fun q => kf (fun z => q ((i32_eq ha i32_r0).mpr z)) H locs ls hP hS hl)
theorem r_icmp_ne (C : Cx X cc own Ts n) {a b : Int} {off : Int} {tgt : Nat} (d : decode cc pc = .ok (.if_icmp .ne off, 3)) (ht : (pc : Int) + off = (tgt : Int)) (ha : -2147483648 ≤ a ∧ a < 2147483648) (hb2 : -2147483648 ≤ b ∧ b < 2147483648) (kt : ¬ a = b → At X cells slots tgt lv st S) (kf : a = b → At X cells slots (pc + 3) lv st S) : At X cells slots pc lv (vi b :: vi a :: st) S := by
  obtain ⟨⟨p, l, e, R, s⟩, ⟨m, args, below, meth, c⟩, Q, ⟨D, cy, ad⟩, ⟨A, nL⟩⟩ := X
  obtain ⟨hx, hb, hml, hown, hts, hK, hAd, hAi, hAs, hNw, hR, hnL⟩ := C
  intro H locs ls hP hS hl
  exact lv_icmp_ne hx hb d ht (fun q => kt (fun z => q ((i32_eq ha hb2).mpr z)) H locs ls hP hS hl) (fun q => kf ((i32_eq ha hb2).mp q) H locs ls hP hS hl)
theorem r_if_ne (C : Cx X cc own Ts n) {a : Int} {off : Int} {tgt : Nat} (d : decode cc pc = .ok (.ifCond .ne off, 3)) (ht : (pc : Int) + off = (tgt : Int)) (ha : -2147483648 ≤ a ∧ a < 2147483648) (kt : ¬ a = 0 → At X cells slots tgt lv st S) (kf : a = 0 → At X cells slots (pc + 3) lv st S) : At X cells slots pc lv (vi a :: st) S := by
  obtain ⟨⟨p, l, e, R, s⟩, ⟨m, args, below, meth, c⟩, Q, ⟨D, cy, ad⟩, ⟨A, nL⟩⟩ := X
  obtain ⟨hx, hb, hml, hown, hts, hK, hAd, hAi, hAs, hNw, hR, hnL⟩ := C
  intro H locs ls hP hS hl
  exact lv_if_ne hx hb d ht (fun q => kt (fun z => q ((i32_eq ha i32_r0).mpr z)) H locs ls hP hS hl) (fun q => kf ((i32_eq ha i32_r0).mp q) H locs ls hP hS hl)
theorem r_icmp_lt (C : Cx X cc own Ts n) {a b : Int} {off : Int} {tgt : Nat} (d : decode cc pc = .ok (.if_icmp .lt off, 3)) (ht : (pc : Int) + off = (tgt : Int)) (ha : -2147483648 ≤ a ∧ a < 2147483648) (hb2 : -2147483648 ≤ b ∧ b < 2147483648) (kt : a < b → At X cells slots tgt lv st S) (kf : b ≤ a → At X cells slots (pc + 3) lv st S) : At X cells slots pc lv (vi b :: vi a :: st) S := by
  obtain ⟨⟨p, l, e, R, s⟩, ⟨m, args, below, meth, c⟩, Q, ⟨D, cy, ad⟩, ⟨A, nL⟩⟩ := X
  obtain ⟨hx, hb, hml, hown, hts, hK, hAd, hAi, hAs, hNw, hR, hnL⟩ := C
  intro H locs ls hP hS hl
  exact lv_icmp_lt hx hb d ht (fun q => kt ((i32_lt ha hb2).mp q) H locs ls hP hS hl) (fun q => kf (Int.not_lt.mp fun z => q ((i32_lt ha hb2).mpr z)) H locs ls hP hS hl)
theorem r_if_lt (C : Cx X cc own Ts n) {a : Int} {off : Int} {tgt : Nat} (d : decode cc pc = .ok (.ifCond .lt off, 3)) (ht : (pc : Int) + off = (tgt : Int)) (ha : -2147483648 ≤ a ∧ a < 2147483648) (kt : a < 0 → At X cells slots tgt lv st S) (kf : 0 ≤ a → At X cells slots (pc + 3) lv st S) : At X cells slots pc lv (vi a :: st) S := by
  obtain ⟨⟨p, l, e, R, s⟩, ⟨m, args, below, meth, c⟩, Q, ⟨D, cy, ad⟩, ⟨A, nL⟩⟩ := X
  obtain ⟨hx, hb, hml, hown, hts, hK, hAd, hAi, hAs, hNw, hR, hnL⟩ := C
  intro H locs ls hP hS hl
  exact lv_if_lt hx hb d ht (fun q => kt ((i32_lt ha i32_r0).mp q) H locs ls hP hS hl) (fun q => kf (Int.not_lt.mp fun z => q ((i32_lt ha i32_r0).mpr z)) H locs ls hP hS hl)
theorem r_icmp_ge (C : Cx X cc own Ts n) {a b : Int} {off : Int} {tgt : Nat} (d : decode cc pc = .ok (.if_icmp .ge off, 3)) (ht : (pc : Int) + off = (tgt : Int)) (ha : -2147483648 ≤ a ∧ a < 2147483648) (hb2 : -2147483648 ≤ b ∧ b < 2147483648) (kt : b ≤ a → At X cells slots tgt lv st S) (kf : a < b → At X cells slots (pc + 3) lv st S) : At X cells slots pc lv (vi b :: vi a :: st) S := by
  obtain ⟨⟨p, l, e, R, s⟩, ⟨m, args, below, meth, c⟩, Q, ⟨D, cy, ad⟩, ⟨A, nL⟩⟩ := X
  obtain ⟨hx, hb, hml, hown, hts, hK, hAd, hAi, hAs, hNw, hR, hnL⟩ := C
  intro H locs ls hP hS hl
  exact lv_icmp_ge hx hb d ht (fun q => kt ((i32_le hb2 ha).mp q) H locs ls hP hS hl) (fun q => kf (Int.not_le.mp fun z => q ((i32_le hb2 ha).mpr z)) H locs ls hP hS hl)
theorem r_if_ge (C : Cx X cc own Ts n) {a : Int} {off : Int} {tgt : Nat} (d : decode cc pc = .ok (.ifCond .ge off, 3)) (ht : (pc : Int) + off = (tgt : Int)) (ha : -2147483648 ≤ a ∧ a < 2147483648) (kt : 0 ≤ a → At X cells slots tgt lv st S) (kf : a < 0 → At X cells slots (pc + 3) lv st S) : At X cells slots pc lv (vi a :: st) S := by
  obtain ⟨⟨p, l, e, R, s⟩, ⟨m, args, below, meth, c⟩, Q, ⟨D, cy, ad⟩, ⟨A, nL⟩⟩ := X
  obtain ⟨hx, hb, hml, hown, hts, hK, hAd, hAi, hAs, hNw, hR, hnL⟩ := C
  intro H locs ls hP hS hl
  exact lv_if_ge hx hb d ht (fun q => kt ((i32_le i32_r0 ha).mp q) H locs ls hP hS hl) (fun q => kf (Int.not_le.mp fun z => q ((i32_le i32_r0 ha).mpr z)) H locs ls hP hS hl)
theorem r_icmp_gt (C : Cx X cc own Ts n) {a b : Int} {off : Int} {tgt : Nat} (d : decode cc pc = .ok (.if_icmp .gt off, 3)) (ht : (pc : Int) + off = (tgt : Int)) (ha : -2147483648 ≤ a ∧ a < 2147483648) (hb2 : -2147483648 ≤ b ∧ b < 2147483648) (kt : b < a → At X cells slots tgt lv st S) (kf : a ≤ b → At X cells slots (pc + 3) lv st S) : At X cells slots pc lv (vi b :: vi a :: st) S := by
  obtain ⟨⟨p, l, e, R, s⟩, ⟨m, args, below, meth, c⟩, Q, ⟨D, cy, ad⟩, ⟨A, nL⟩⟩ := X
  obtain ⟨hx, hb, hml, hown, hts, hK, hAd, hAi, hAs, hNw, hR, hnL⟩ := C
  intro H locs ls hP hS hl
  exact lv_icmp_gt hx hb d ht (fun q => kt ((i32_lt hb2 ha).mp q) H locs ls hP hS hl) (fun q => kf (Int.not_lt.mp fun z => q ((i32_lt hb2 ha).mpr z)) H locs ls hP hS hl)
theorem r_if_gt (C : Cx X cc own Ts n) {a : Int} {off : Int} {tgt : Nat} (d : decode cc pc = .ok (.ifCond .gt off, 3)) (ht : (pc : Int) + off = (tgt : Int)) (ha : -2147483648 ≤ a ∧ a < 2147483648) (kt : 0 < a → At X cells slots tgt lv st S) (kf : a ≤ 0 → At X cells slots (pc + 3) lv st S) : At X cells slots pc lv (vi a :: st) S := by
  obtain ⟨⟨p, l, e, R, s⟩, ⟨m, args, below, meth, c⟩, Q, ⟨D, cy, ad⟩, ⟨A, nL⟩⟩ := X
  obtain ⟨hx, hb, hml, hown, hts, hK, hAd, hAi, hAs, hNw, hR, hnL⟩ := C
  intro H locs ls hP hS hl
  exact lv_if_gt hx hb d ht (fun q => kt ((i32_lt i32_r0 ha).mp q) H locs ls hP hS hl) (fun q => kf (Int.not_lt.mp fun z => q ((i32_lt i32_r0 ha).mpr z)) H locs ls hP hS hl)
theorem r_icmp_le (C : Cx X cc own Ts n) {a b : Int} {off : Int} {tgt : Nat} (d : decode cc pc = .ok (.if_icmp .le off, 3)) (ht : (pc : Int) + off = (tgt : Int)) (ha : -2147483648 ≤ a ∧ a < 2147483648) (hb2 : -2147483648 ≤ b ∧ b < 2147483648) (kt : a ≤ b → At X cells slots tgt lv st S) (kf : b < a → At X cells slots (pc + 3) lv st S) : At X cells slots pc lv (vi b :: vi a :: st) S := by
  obtain ⟨⟨p, l, e, R, s⟩, ⟨m, args, below, meth, c⟩, Q, ⟨D, cy, ad⟩, ⟨A, nL⟩⟩ := X
  obtain ⟨hx, hb, hml, hown, hts, hK, hAd, hAi, hAs, hNw, hR, hnL⟩ := C
  intro H locs ls hP hS hl
  exact lv_icmp_le hx hb d ht (fun q => kt ((i32_le ha hb2).mp q) H locs ls hP hS hl) (fun q => kf (Int.not_le.mp fun z => q ((i32_le ha hb2).mpr z)) H locs ls hP hS hl)
theorem r_if_le (C : Cx X cc own Ts n) {a : Int} {off : Int} {tgt : Nat} (d : decode cc pc = .ok (.ifCond .le off, 3)) (ht : (pc : Int) + off = (tgt : Int)) (ha : -2147483648 ≤ a ∧ a < 2147483648) (kt : a ≤ 0 → At X cells slots tgt lv st S) (kf : 0 < a → At X cells slots (pc + 3) lv st S) : At X cells slots pc lv (vi a :: st) S := by
  obtain ⟨⟨p, l, e, R, s⟩, ⟨m, args, below, meth, c⟩, Q, ⟨D, cy, ad⟩, ⟨A, nL⟩⟩ := X
  obtain ⟨hx, hb, hml, hown, hts, hK, hAd, hAi, hAs, hNw, hR, hnL⟩ := C
  intro H locs ls hP hS hl
  exact lv_if_le hx hb d ht (fun q => kt ((i32_le ha i32_r0).mp q) H locs ls hP hS hl) (fun q => kf (Int.not_le.mp fun z => q ((i32_le ha i32_r0).mpr z)) H locs ls hP hS hl)
theorem r_ifnull (C : Cx X cc own Ts n) {o : Option Idn} {off : Int} {tgt : Nat} (d : decode cc pc = .ok (.ifnull off, 3)) (ht : (pc : Int) + off = (tgt : Int)) (kt : o = none → At X cells slots tgt lv st S) (kf : ∀ i, o = some i → At X cells slots (pc + 3) lv st S) : At X cells slots pc lv (vr o :: st) S := by
  obtain ⟨⟨p, l, e, R, s⟩, ⟨m, args, below, meth, c⟩, Q, ⟨D, cy, ad⟩, ⟨A, nL⟩⟩ := X
  obtain ⟨hx, hb, hml, hown, hts, hK, hAd, hAi, hAs, hNw, hR, hnL⟩ := C
  intro H locs ls hP hS hl
  cases o with
  | none => exact lv_ifnullN hx hb d ht (kt rfl H locs ls hP hS hl)
  | some i => exact lv_ifnull hx hb d (kf i rfl H locs ls hP hS hl)
theorem r_ifnonnull (C : Cx X cc own Ts n) {o : Option Idn} {off : Int} {tgt : Nat} (d : decode cc pc = .ok (.ifnonnull off, 3)) (ht : (pc : Int) + off = (tgt : Int)) (kt : ∀ i, o = some i → At X cells slots tgt lv st S) (kf : o = none → At X cells slots (pc + 3) lv st S) : At X cells slots pc lv (vr o :: st) S := by
  obtain ⟨⟨p, l, e, R, s⟩, ⟨m, args, below, meth, c⟩, Q, ⟨D, cy, ad⟩, ⟨A, nL⟩⟩ := X
  obtain ⟨hx, hb, hml, hown, hts, hK, hAd, hAi, hAs, hNw, hR, hnL⟩ := C
  intro H locs ls hP hS hl
  cases o with
  | none => exact lv_ifnonnullN hx hb d (kf rfl H locs ls hP hS hl)
  | some i => exact lv_ifnonnull hx hb d ht (kt i rfl H locs ls hP hS hl)
theorem r_tin (C : Cx X cc own Ts n) {dflt lo hi : Int} {offs : Array Int} {len : Nat} {z off : Int} {tgt : Nat} (d : decode cc pc = .ok (.tableswitch dflt lo hi offs, len)) (hz : -2147483648 ≤ z ∧ z < 2147483648) (h1 : lo ≤ z) (h2 : z ≤ hi) (ho : offs[(z - lo).toNat]? = some off) (ht : (pc : Int) + off = (tgt : Int)) (k : At X cells slots tgt lv st S) : At X cells slots pc lv (vi z :: st) S := by
  obtain ⟨⟨p, l, e, R, s⟩, ⟨m, args, below, meth, c⟩, Q, ⟨D, cy, ad⟩, ⟨A, nL⟩⟩ := X
  obtain ⟨hx, hb, hml, hown, hts, hK, hAd, hAi, hAs, hNw, hR, hnL⟩ := C
  intro H locs ls hP hS hl
  exact lv_tableIn hx hb d (by rw [i32_to hz.1 hz.2]; omega) (by rw [i32_to hz.1 hz.2]; omega) (by rw [i32_to hz.1 hz.2]; exact ho) ht (k H locs ls hP hS hl)
theorem r_tout (C : Cx X cc own Ts n) {dflt lo hi : Int} {offs : Array Int} {len : Nat} {z : Int} {tgt : Nat} (d : decode cc pc = .ok (.tableswitch dflt lo hi offs, len)) (hz : -2147483648 ≤ z ∧ z < 2147483648) (h : z < lo ∨ hi < z) (ht : (pc : Int) + dflt = (tgt : Int)) (k : At X cells slots tgt lv st S) : At X cells slots pc lv (vi z :: st) S := by
  obtain ⟨⟨p, l, e, R, s⟩, ⟨m, args, below, meth, c⟩, Q, ⟨D, cy, ad⟩, ⟨A, nL⟩⟩ := X
  obtain ⟨hx, hb, hml, hown, hts, hK, hAd, hAi, hAs, hNw, hR, hnL⟩ := C
  intro H locs ls hP hS hl
  exact lv_tableOut hx hb d (by rw [i32_to hz.1 hz.2]; exact h) ht (k H locs ls hP hS hl)
theorem r_lsw (C : Cx X cc own Ts n) {dflt : Int} {ps : Array (Int × Int)} {len : Nat} {z off : Int} {tgt : Nat} (d : decode cc pc = .ok (.lookupswitch dflt ps, len)) (hp0 : (ps.toList.zip (ps.toList.drop 1)).all (fun (a, next) => a.1 < next.1) = true) (hz : -2147483648 ≤ z ∧ z < 2147483648) (ho : Op.lookupswitch.offset ps.toList dflt z = off) (ht : (pc : Int) + off = (tgt : Int)) (k : At X cells slots tgt lv st S) : At X cells slots pc lv (vi z :: st) S := by
  obtain ⟨⟨p, l, e, R, s⟩, ⟨m, args, below, meth, c⟩, Q, ⟨D, cy, ad⟩, ⟨A, nL⟩⟩ := X
  obtain ⟨hx, hb, hml, hown, hts, hK, hAd, hAi, hAs, hNw, hR, hnL⟩ := C
  intro H locs ls hP hS hl
  exact lv_lookup hx hb d hp0 (by rw [i32_to hz.1 hz.2]; exact ho) ht (k H locs ls hP hS hl)
theorem r_getf (C : Cx X cc own Ts n) {ref Cn : String} {T : u_T} {N ci index : Nat} {i : Idn} {fs : List AV} (hi : i ∈ ids) (hc : hp S i = .inl (ci, fs)) (hcl : vwCl[ci]? = some (Cn, T, N)) (q : Nat) (hq : q < N) (hin : ∀ w ∈ u_ws Cn T N, w ∈ Ts) (hlk : Cond.fieldLink own index ref (T q).2.1 (T q).2.2.1 ∈ Ts) (hsm : ref = (T q).1 ∨ Cond.sameField ref (T q).1 (T q).2.1 (T q).2.2.1 ∈ Ts) {v : AV} (hv : fs[q]? = some v) (d : decode cc pc = .ok (.getfield index, 3)) (k : At X cells slots (pc + 3) lv (v :: st) S) : At X cells slots pc lv (vr (some i) :: st) S := by
  obtain ⟨⟨p, l, e, R, s⟩, ⟨m, args, below, meth, c⟩, Q, ⟨D, cy, ad⟩, ⟨A, nL⟩⟩ := X
  obtain ⟨hx, hb, hml, hown, hts, hK, hAd, hAi, hAs, hNw, hR, hnL⟩ := C
  intro H locs ls hP hS hl
  obtain ⟨q0, h0, h1⟩ := wl_get (cy := cy) (ad := ad) (h := hp S) hi
  rw [hc] at h1
  exact va_get (v := tv ad v) hx hb hts hin hown hK hP q0 h1 hcl q hq (hts _ hlk) (fun x h9 => (hsm.elim (fun e => e ▸ h9) (fun w => u_same (hts _ w) x h9))) (by rw [List.getElem?_map, hv]; rfl) d (k H locs ls hP hS hl)
theorem r_putf (C : Cx X cc own Ts n) {ref Cn : String} {T : u_T} {N ci index : Nat} {i : Idn} {fs : List AV} (hi : i ∈ ids) (hc : hp S i = .inl (ci, fs)) (hcl : vwCl[ci]? = some (Cn, T, N)) (q : Nat) (hq : q < N) (hin : ∀ w ∈ u_ws Cn T N, w ∈ Ts) (hlk : Cond.fieldLink own index ref (T q).2.1 (T q).2.2.1 ∈ Ts) (hsm : ref = (T q).1 ∨ Cond.sameField ref (T q).1 (T q).2.1 (T q).2.2.1 ∈ Ts) {v : AV} {S' : ST} (ty0 : Nat → FieldType) (hty : ∀ k, k < N → parseFieldDescriptor (T k).2.2.1 = some (ty0 k)) (hnm : ∀ a, a < N → ∀ b, b < N → a ≠ b → (T a).2.1 ≠ (T b).2.1) (hfin : (T q).2.2.2 = false) {ty : FieldType} (hd : parseFieldDescriptor (T q).2.2.1 = some ty) (hnr : ∀ ad, narrow ty (tv ad v) = tv ad v) (hft : ∀ ad, fits ty (tv ad v) = true) (hlen : q < fs.length) (hu : hp S' = upI (hp S) i (.inl (ci, fs.set q v))) (d : decode cc pc = .ok (.putfield index, 3)) (k : At X cells slots (pc + 3) lv st S') : At X cells slots pc lv (v :: vr (some i) :: st) S := by
  obtain ⟨⟨p, l, e, R, s⟩, ⟨m, args, below, meth, c⟩, Q, ⟨D, cy, ad⟩, ⟨A, nL⟩⟩ := X
  obtain ⟨hx, hb, hml, hown, hts, hK, hAd, hAi, hAs, hNw, hR, hnL⟩ := C
  intro H locs ls hP hS hl
  obtain ⟨q0, h0, h1⟩ := wl_get (cy := cy) (ad := ad) (h := hp S) hi
  rw [hc] at h1
  refine va_put (v := tv ad v) (H0 := s.heap) (A := A) hx hb hts hin ty0 hty hnm hown hK hP (wl_D hAd hAi) hS q0 h1 hcl q hq (hts _ hlk) (fun x h9 => (hsm.elim (fun e => e ▸ h9) (fun w => u_same (hts _ w) x h9))) hfin hd (hnr ad) (hft ad) (by simpa using hlen) d (fun H1 locs1 hP1 hD1 hS1 => ?_)
  have e1 : (wl cy ad (hp S)).set q0 (ad i, .inr (ci, (fs.map (tv ad)).set q (tv ad v))) = wl cy ad (hp S') := by
    rw [← List.map_set]
    exact wl_set (e := .inl (ci, fs.set q v)) h0 hu
  rw [e1] at hP1
  exact k H1 locs1 ls hP1 hS1 hl
theorem r_iald (C : Cx X cc own Ts n) {i : Idn} {t N j : Nat} {z : Int} {g : Nat → Int} (hi : i ∈ ids) (hc : hp S i = .inr (.inl (t, N, g))) (ht : t = 0) (hz : z = (j : Int)) (hj : j < N) (hN : N < 2000) (d : decode cc pc = .ok (.iaload, 1)) (k : At X cells slots (pc + 1) lv (vi (g j) :: st) S) : At X cells slots pc lv (vi z :: vr (some i) :: st) S := by
  obtain ⟨⟨p, l, e, R, s⟩, ⟨m, args, below, meth, c⟩, Q, ⟨D, cy, ad⟩, ⟨A, nL⟩⟩ := X
  obtain ⟨hx, hb, hml, hown, hts, hK, hAd, hAi, hAs, hNw, hR, hnL⟩ := C
  intro H locs ls hP hS hl
  obtain ⟨q0, h0, h1⟩ := wl_get (cy := cy) (ad := ad) (h := hp S) hi
  rw [hc] at h1
  subst ht; subst hz
  have e0 : (Int32.ofInt (j : Int)).toNatClampNeg = j := i32_cl (by omega)
  have hv : vp_in (Int32.ofInt (j : Int)) N := i32_in hj (by omega)
  have h2 := va_iald hx hb hK hP q0 0 h1 rfl hv d (rest := st.map (tv ad)) (pc := pc) (ls := ls) (H := H) (locs := locs) (cells := cells) (slots := slots) (Q := Q) (R := R) (l := l) (e := e) (below := below) (meth := meth) (m := m) (args := args) (p := p)
  rw [e0] at h2
  exact h2 (k H locs ls hP hS hl)
theorem r_bald (C : Cx X cc own Ts n) {i : Idn} {t N j : Nat} {z : Int} {g : Nat → Int} (hi : i ∈ ids) (hc : hp S i = .inr (.inl (t, N, g))) (ht : t = 1) (hz : z = (j : Int)) (hj : j < N) (hN : N < 2000) (d : decode cc pc = .ok (.baload, 1)) (k : At X cells slots (pc + 1) lv (vi (g j) :: st) S) : At X cells slots pc lv (vi z :: vr (some i) :: st) S := by
  obtain ⟨⟨p, l, e, R, s⟩, ⟨m, args, below, meth, c⟩, Q, ⟨D, cy, ad⟩, ⟨A, nL⟩⟩ := X
  obtain ⟨hx, hb, hml, hown, hts, hK, hAd, hAi, hAs, hNw, hR, hnL⟩ := C
  intro H locs ls hP hS hl
  obtain ⟨q0, h0, h1⟩ := wl_get (cy := cy) (ad := ad) (h := hp S) hi
  rw [hc] at h1
  subst ht; subst hz
  have e0 : (Int32.ofInt (j : Int)).toNatClampNeg = j := i32_cl (by omega)
  have hv : vp_in (Int32.ofInt (j : Int)) N := i32_in hj (by omega)
  have h2 := va_zald hx hb hK hP q0 1 h1 rfl hv d (rest := st.map (tv ad)) (pc := pc) (ls := ls) (H := H) (locs := locs) (cells := cells) (slots := slots) (Q := Q) (R := R) (l := l) (e := e) (below := below) (meth := meth) (m := m) (args := args) (p := p)
  rw [e0] at h2
  exact h2 (k H locs ls hP hS hl)
theorem r_lald (C : Cx X cc own Ts n) {i : Idn} {t N j : Nat} {z : Int} {g : Nat → Int} (hi : i ∈ ids) (hc : hp S i = .inr (.inr (.inr (t, N, g)))) (ht : t = 6) (hz : z = (j : Int)) (hj : j < N) (hN : N < 2000) (d : decode cc pc = .ok (.laload, 1)) (k : At X cells slots (pc + 1) lv (vl (g j) :: st) S) : At X cells slots pc lv (vi z :: vr (some i) :: st) S := by
  obtain ⟨⟨p, l, e, R, s⟩, ⟨m, args, below, meth, c⟩, Q, ⟨D, cy, ad⟩, ⟨A, nL⟩⟩ := X
  obtain ⟨hx, hb, hml, hown, hts, hK, hAd, hAi, hAs, hNw, hR, hnL⟩ := C
  intro H locs ls hP hS hl
  obtain ⟨q0, h0, h1⟩ := wl_get (cy := cy) (ad := ad) (h := hp S) hi
  rw [hc] at h1
  subst ht; subst hz
  have e0 : (Int32.ofInt (j : Int)).toNatClampNeg = j := i32_cl (by omega)
  have hv : vp_in (Int32.ofInt (j : Int)) N := i32_in hj (by omega)
  have h2 := va_lald hx hb hK hP q0 6 h1 rfl hv d (rest := st.map (tv ad)) (pc := pc) (ls := ls) (H := H) (locs := locs) (cells := cells) (slots := slots) (Q := Q) (R := R) (l := l) (e := e) (below := below) (meth := meth) (m := m) (args := args) (p := p)
  rw [e0] at h2
  exact h2 (k H locs ls hP hS hl)
theorem r_aald (C : Cx X cc own Ts n) {i : Idn} {t N j : Nat} {z : Int} {g : Nat → Option Idn} {C : String} (hi : i ∈ ids) (hc : hp S i = .inr (.inr (.inl (t, N, g)))) (ht : ∀ cy, (tysOf cy)[t]? = some (cy t, .object C)) (hz : z = (j : Int)) (hj : j < N) (hN : N < 2000) (d : decode cc pc = .ok (.aaload, 1)) (k : At X cells slots (pc + 1) lv (vr (g j) :: st) S) : At X cells slots pc lv (vi z :: vr (some i) :: st) S := by
  obtain ⟨⟨p, l, e, R, s⟩, ⟨m, args, below, meth, c⟩, Q, ⟨D, cy, ad⟩, ⟨A, nL⟩⟩ := X
  obtain ⟨hx, hb, hml, hown, hts, hK, hAd, hAi, hAs, hNw, hR, hnL⟩ := C
  intro H locs ls hP hS hl
  obtain ⟨q0, h0, h1⟩ := wl_get (cy := cy) (ad := ad) (h := hp S) hi
  rw [hc] at h1
  subst hz
  have e0 : (Int32.ofInt (j : Int)).toNatClampNeg = j := i32_cl (by omega)
  have hv : vp_in (Int32.ofInt (j : Int)) N := i32_in hj (by omega)
  have h2 := va_aldq hx hb hK hP q0 t h1 (ht cy) hv d (rest := st.map (tv ad)) (pc := pc) (ls := ls) (H := H) (locs := locs) (cells := cells) (slots := slots) (Q := Q) (R := R) (l := l) (e := e) (below := below) (meth := meth) (m := m) (args := args) (p := p)
  rw [e0] at h2
  exact h2 (k H locs ls hP hS hl)
theorem r_alen (C : Cx X cc own Ts n) {i : Idn} {t N : Nat} (hi : i ∈ ids) (hc : (∃ g, hp S i = .inr (.inl (t, N, g))) ∨ (∃ g, hp S i = .inr (.inr (.inl (t, N, g))))) (ht : ∀ cy, ∃ ty, (tysOf cy)[t]? = some (cy t, ty)) (d : decode cc pc = .ok (.arraylength, 1)) (k : At X cells slots (pc + 1) lv (vi (N : Int) :: st) S) : At X cells slots pc lv (vr (some i) :: st) S := by
  obtain ⟨⟨p, l, e, R, s⟩, ⟨m, args, below, meth, c⟩, Q, ⟨D, cy, ad⟩, ⟨A, nL⟩⟩ := X
  obtain ⟨hx, hb, hml, hown, hts, hK, hAd, hAi, hAs, hNw, hR, hnL⟩ := C
  intro H locs ls hP hS hl
  obtain ⟨q0, h0, h1⟩ := wl_get (cy := cy) (ad := ad) (h := hp S) hi
  obtain ⟨ty, hty⟩ := ht cy
  rcases hc with ⟨g, hc⟩ | ⟨g, hc⟩
  · rw [hc] at h1
    exact va_alen hx hb hK hP q0 t h1 hty (Int32.ofInt_eq_ofNat).symm d (k H locs ls hP hS hl)
  · rw [hc] at h1
    exact va_alen hx hb hK hP q0 t h1 hty (Int32.ofInt_eq_ofNat).symm d (k H locs ls hP hS hl)
theorem r_iast (C : Cx X cc own Ts n) {i : Idn} {t N j : Nat} {z x : Int} {g : Nat → Int} {S' : ST} (hi : i ∈ ids) (hc : hp S i = .inr (.inl (t, N, g))) (ht : t = 0) (hz : z = (j : Int)) (hj : j < N) (hN : N < 2000) (hu : hp S' = upI (hp S) i (.inr (.inl (t, N, upF g j x)))) (d : decode cc pc = .ok (.iastore, 1)) (k : At X cells slots (pc + 1) lv st S') : At X cells slots pc lv (vi x :: vi z :: vr (some i) :: st) S := by
  obtain ⟨⟨p, l, e, R, s⟩, ⟨m, args, below, meth, c⟩, Q, ⟨D, cy, ad⟩, ⟨A, nL⟩⟩ := X
  obtain ⟨hx, hb, hml, hown, hts, hK, hAd, hAi, hAs, hNw, hR, hnL⟩ := C
  intro H locs ls hP hS hl
  obtain ⟨q0, h0, h1⟩ := wl_get (cy := cy) (ad := ad) (h := hp S) hi
  rw [hc] at h1
  subst ht; subst hz
  have e0 : (Int32.ofInt (j : Int)).toNatClampNeg = j := i32_cl (by omega)
  have hv : vp_in (Int32.ofInt (j : Int)) N := i32_in hj (by omega)
  refine va_iast (H0 := s.heap) (A := A) hx hb hK hP (wl_D hAd hAi) hS q0 0 h1 rfl hv d (fun H1 locs1 hP1 hD1 hS1 => ?_)
  have e1 : te cy ad (.inr (.inl (0, N, upF g j x))) = .inl (cy 0, N, .inl (upd (fun j => Int32.ofInt (g j)) j (Int32.ofInt x))) := by
    simp only [te]
    refine congrArg (fun f => (Sum.inl (cy 0, N, .inl f) : va_E)) ?_
    funext w
    by_cases hw : w = j
    · subst hw; simp [upF, upd, vp_updL]
    · simp [upF, upd, vp_updL, hw]
  rw [e0, ← e1, wl_set h0 hu] at hP1
  exact k H1 locs1 ls hP1 hS1 hl
theorem r_bast (C : Cx X cc own Ts n) {i : Idn} {t N j : Nat} {z x : Int} {g : Nat → Int} {S' : ST} (hi : i ∈ ids) (hc : hp S i = .inr (.inl (t, N, g))) (ht : t = 1) (hz : z = (j : Int)) (hj : j < N) (hN : N < 2000) (hx01 : x = 0 ∨ x = 1) (hu : hp S' = upI (hp S) i (.inr (.inl (t, N, upF g j x)))) (d : decode cc pc = .ok (.bastore, 1)) (k : At X cells slots (pc + 1) lv st S') : At X cells slots pc lv (vi x :: vi z :: vr (some i) :: st) S := by
  obtain ⟨⟨p, l, e, R, s⟩, ⟨m, args, below, meth, c⟩, Q, ⟨D, cy, ad⟩, ⟨A, nL⟩⟩ := X
  obtain ⟨hx, hb, hml, hown, hts, hK, hAd, hAi, hAs, hNw, hR, hnL⟩ := C
  intro H locs ls hP hS hl
  obtain ⟨q0, h0, h1⟩ := wl_get (cy := cy) (ad := ad) (h := hp S) hi
  rw [hc] at h1
  subst ht; subst hz
  have e0 : (Int32.ofInt (j : Int)).toNatClampNeg = j := i32_cl (by omega)
  have hv : vp_in (Int32.ofInt (j : Int)) N := i32_in hj (by omega)
  refine va_zast (H0 := s.heap) (A := A) hx hb hK hP (wl_D hAd hAi) hS q0 1 h1 rfl hv d (fun H1 locs1 hP1 hD1 hS1 => ?_)
  have e1 : te cy ad (.inr (.inl (1, N, upF g j x))) = .inl (cy 1, N, .inl (upd (fun j => Int32.ofInt (g j)) j (vp_nar .boolean (Int32.ofInt x)))) := by
    simp only [te]
    refine congrArg (fun f => (Sum.inl (cy 1, N, .inl f) : va_E)) ?_
    funext w
    by_cases hw : w = j
    · subst hw; simp [upF, upd, vp_updL]; rcases hx01 with rfl | rfl <;> rfl
    · simp [upF, upd, vp_updL, hw]
  rw [e0, ← e1, wl_set h0 hu] at hP1
  exact k H1 locs1 ls hP1 hS1 hl
theorem r_last (C : Cx X cc own Ts n) {i : Idn} {t N j : Nat} {z x : Int} {g : Nat → Int} {S' : ST} (hi : i ∈ ids) (hc : hp S i = .inr (.inr (.inr (t, N, g)))) (ht : t = 6) (hz : z = (j : Int)) (hj : j < N) (hN : N < 2000) (hu : hp S' = upI (hp S) i (.inr (.inr (.inr (t, N, upF g j x))))) (d : decode cc pc = .ok (.lastore, 1)) (k : At X cells slots (pc + 1) lv st S') : At X cells slots pc lv (vl x :: vi z :: vr (some i) :: st) S := by
  obtain ⟨⟨p, l, e, R, s⟩, ⟨m, args, below, meth, c⟩, Q, ⟨D, cy, ad⟩, ⟨A, nL⟩⟩ := X
  obtain ⟨hx, hb, hml, hown, hts, hK, hAd, hAi, hAs, hNw, hR, hnL⟩ := C
  intro H locs ls hP hS hl
  obtain ⟨q0, h0, h1⟩ := wl_get (cy := cy) (ad := ad) (h := hp S) hi
  rw [hc] at h1
  subst ht; subst hz
  have e0 : (Int32.ofInt (j : Int)).toNatClampNeg = j := i32_cl (by omega)
  have hv : vp_in (Int32.ofInt (j : Int)) N := i32_in hj (by omega)
  refine va_last (H0 := s.heap) (A := A) hx hb hK hP (wl_D hAd hAi) hS q0 6 h1 rfl hv d (fun H1 locs1 hP1 hD1 hS1 => ?_)
  have e1 : te cy ad (.inr (.inr (.inr (6, N, upF g j x)))) = .inl (cy 6, N, .inr (.inl (vp_updL (fun j => Int64.ofInt (g j)) j (Int64.ofInt x)))) := by
    simp only [te]
    refine congrArg (fun f => (Sum.inl (cy 6, N, .inr (.inl f)) : va_E)) ?_
    funext w
    by_cases hw : w = j
    · subst hw; simp [upF, upd, vp_updL]
    · simp [upF, upd, vp_updL, hw]
  rw [e0, ← e1, wl_set h0 hu] at hP1
  exact k H1 locs1 ls hP1 hS1 hl
theorem r_aast11 (C : Cx X cc own Ts n) {i : Idn} {N j y ci Nf : Nat} {Tf : u_T} {fs : List AV} {z : Int} {g : Nat → Option Idn} {S' : ST} (hi : i ∈ ids) (hc : hp S i = .inr (.inr (.inl (2, N, g)))) (hy : ((11, y) : Idn) ∈ ids) (hcy : hp S (11, y) = .inl (ci, fs)) (hcl : vwCl[ci]? = some (RX3, Tf, Nf)) (hz : z = (j : Int)) (hj : j < N) (hN : N < 2000) (hu : hp S' = upI (hp S) i (.inr (.inr (.inl (2, N, upF g j (some (11, y))))))) (d : decode cc pc = .ok (.aastore, 1)) (k : At X cells slots (pc + 1) lv st S') : At X cells slots pc lv (vr (some (11, y)) :: vi z :: vr (some i) :: st) S := by
  obtain ⟨⟨p, l, e, R, s⟩, ⟨m, args, below, meth, c⟩, Q, ⟨D, cy, ad⟩, ⟨A, nL⟩⟩ := X
  obtain ⟨hx, hb, hml, hown, hts, hK, hAd, hAi, hAs, hNw, hR, hnL⟩ := C
  intro H locs ls hP hS hl
  obtain ⟨q0, h0, h1⟩ := wl_get (cy := cy) (ad := ad) (h := hp S) hi
  obtain ⟨q1, h3, h4⟩ := wl_get (cy := cy) (ad := ad) (h := hp S) hy
  rw [hc] at h1
  rw [hcy] at h4
  subst hz
  have e0 : (Int32.ofInt (j : Int)).toNatClampNeg = j := i32_cl (by omega)
  have hv : vp_in (Int32.ofInt (j : Int)) N := i32_in hj (by omega)
  refine va_astqO (H0 := s.heap) (A := A) (E := "PostingPlanner$Part") hx hb hK hP (wl_D hAd hAi) hS q0 2 q1 ci h1 rfl (r := (RX3, Tf, Nf)) hNw.2.1 h4 hcl hv d (fun H1 locs1 hP1 hD1 hS1 => ?_)
  have e1 : te cy ad (.inr (.inr (.inl (2, N, upF g j (some (11, y)))))) = .inl (cy 2, N, .inr (.inr (.inr (.inr (va_up (fun j => (g j).map ad) j (some (ad (11, y)))))))) := by
    simp only [te]
    refine congrArg (fun f => (Sum.inl (cy 2, N, .inr (.inr (.inr (.inr f)))) : va_E)) ?_
    funext w
    by_cases hw : w = j
    · subst hw; simp [upF, va_up]
    · simp [upF, va_up, hw]
  rw [e0, ← e1, wl_set h0 hu] at hP1
  exact k H1 locs1 ls hP1 hS1 hl
theorem r_aast14 (C : Cx X cc own Ts n) {i : Idn} {N j y ci Nf : Nat} {Tf : u_T} {fs : List AV} {z : Int} {g : Nat → Option Idn} {S' : ST} (hi : i ∈ ids) (hc : hp S i = .inr (.inr (.inl (2, N, g)))) (hy : ((14, y) : Idn) ∈ ids) (hcy : hp S (14, y) = .inl (ci, fs)) (hcl : vwCl[ci]? = some (RX4, Tf, Nf)) (hz : z = (j : Int)) (hj : j < N) (hN : N < 2000) (hu : hp S' = upI (hp S) i (.inr (.inr (.inl (2, N, upF g j (some (14, y))))))) (d : decode cc pc = .ok (.aastore, 1)) (k : At X cells slots (pc + 1) lv st S') : At X cells slots pc lv (vr (some (14, y)) :: vi z :: vr (some i) :: st) S := by
  obtain ⟨⟨p, l, e, R, s⟩, ⟨m, args, below, meth, c⟩, Q, ⟨D, cy, ad⟩, ⟨A, nL⟩⟩ := X
  obtain ⟨hx, hb, hml, hown, hts, hK, hAd, hAi, hAs, hNw, hR, hnL⟩ := C
  intro H locs ls hP hS hl
  obtain ⟨q0, h0, h1⟩ := wl_get (cy := cy) (ad := ad) (h := hp S) hi
  obtain ⟨q1, h3, h4⟩ := wl_get (cy := cy) (ad := ad) (h := hp S) hy
  rw [hc] at h1
  rw [hcy] at h4
  subst hz
  have e0 : (Int32.ofInt (j : Int)).toNatClampNeg = j := i32_cl (by omega)
  have hv : vp_in (Int32.ofInt (j : Int)) N := i32_in hj (by omega)
  refine va_astqO (H0 := s.heap) (A := A) (E := "PostingPlanner$Part") hx hb hK hP (wl_D hAd hAi) hS q0 2 q1 ci h1 rfl (r := (RX4, Tf, Nf)) hNw.2.2 h4 hcl hv d (fun H1 locs1 hP1 hD1 hS1 => ?_)
  have e1 : te cy ad (.inr (.inr (.inl (2, N, upF g j (some (14, y)))))) = .inl (cy 2, N, .inr (.inr (.inr (.inr (va_up (fun j => (g j).map ad) j (some (ad (14, y)))))))) := by
    simp only [te]
    refine congrArg (fun f => (Sum.inl (cy 2, N, .inr (.inr (.inr (.inr f)))) : va_E)) ?_
    funext w
    by_cases hw : w = j
    · subst hw; simp [upF, va_up]
    · simp [upF, va_up, hw]
  rw [e0, ← e1, wl_set h0 hu] at hP1
  exact k H1 locs1 ls hP1 hS1 hl
end RULES
end
section
/-! CONTRACTS of methods that return -/
def AA (ad : Idn → Nat) (sz : Nat) : Addr → Prop := fun q => (∃ i ∈ ids, q = ad i) ∨ sz ≤ q
def Pr (D : va_G) (cy : Nat → ClassId) (ad : Idn → Nat) (S : ST) (sz : Nat) (U : State) : Prop := U.heap.size = sz ∧ va_P D vwCl (wl cy ad (hp S)) U.heap ∧ va_K D vwCl (tysOf cy) U ∧ NwOK U
def Qq (D : va_G) (cy : Nat → ClassId) (ad : Idn → Nat) (A : Addr → Prop) (post : Option AV → ST → Prop) : Array Value → State → Outcome → State → Prop := fun _ st oc t => (∃ (v : Option AV) (S' : ST), oc = .returned (v.map (tv ad)) ∧ post v S' ∧ va_P D vwCl (wl cy ad (hp S')) t.heap ∧ va_K D vwCl (tysOf cy) t) ∧ va_F A st t
def Ct (y : MethodName) (ws : List Cond) (n : Nat) (args : List AV) (S : ST) (post : Option AV → ST → Prop) : Prop := ∀ (l : Launch) (D : va_G) (cy : Nat → ClassId) (ad : Idn → Nat) (sz : Nat), AdOK ad → Met l y ws (rmN n) (va_Pc (args.map (tv ad)) (Pr D cy ad S sz)) (Qq D cy ad (AA ad sz) post) 0 0 (AA ad sz)
/-- the end of such a body -/
def Rx (X : XT) (ret : Option FieldType) (post : Option AV → ST → Prop) : Prop := match X with
  | ((p, l, e, R, s), (m, args, below, meth, c), Q, (D, cy, ad), (A, nL)) => Q = MQ below (Qq D cy ad A post) args s 0 0 A ∧ meth.sig.returnType = ret ∧ meth.locks = false
def lva (k : Nat) (as : List AV) : List (Nat × AV) := match as with
  | [] => []
  | a :: r => (k, a) :: lva (if catA a = 2 then k + 2 else k + 1) r
theorem lva_map (ad : Idn → Nat) : ∀ (as : List AV) (k : Nat), lv_args k (as.map (tv ad)) = (lva k as).map (fun q => (q.1, tv ad q.2))
  | [], k => rfl
  | a :: r, k => by
    have ih := lva_map ad r (if catA a = 2 then k + 2 else k + 1)
    show (k, tv ad a) :: lv_args (if (tv ad a).category = 2 then k + 2 else k + 1) (r.map (tv ad)) = _
    rw [tv_cat, ih]
    rfl
def sumc (as : List AV) : Nat := match as with
  | [] => 0
  | a :: r => catA a + sumc r
theorem sl_cons (v : Value) (vs : List Value) : (lg_sl (v :: vs)).length = v.category + (lg_sl vs).length := by
  rcases lv_cat v with h | h <;> simp [lg_sl, h] <;> omega
theorem sl_len (ad : Idn → Nat) : ∀ as : List AV, (lg_sl (as.map (tv ad))).length = sumc as
  | [] => rfl
  | a :: r => by
    have ih := sl_len ad r
    rw [List.map_cons, sl_cons, tv_cat, ih]
    rfl
theorem Ct.of {y : MethodName} {ws ws' : List Cond} {cc : ByteArray} {nL n : Nat} {ret : Option FieldType} {as : List AV} {S : ST} {post : Option AV → ST → Prop}
    (hy : plainName y.cls = true) (hw : ws = .code y cc nL ret :: ws') (ha : sumc as ≤ nL) (hnL : nL < 64)
    (body : ∀ X : XT, Cx X cc y.cls ws n → Rx X ret post → X.2.2.2.2.2 = nL → At X 0 0 0 (lva 0 as) [] S) : Ct y ws n as S post := by
  intro l D cy ad sz hAd
  refine Met.ofW (cc := cc) (maxL := nL) (ret := ret) hy hw ?_
  intro p e s m args below meth c s₁ B hml hv
  obtain ⟨rfl, hsz, hP, hK, hNw⟩ := hv
  subst hsz
  have hts := atoms_spec (ws := ws) B.pre
  have hown : s.vm.findClass y.cls = some m.cls := findClass_of_methodNamed B.named
  have hl := lv_entry (as.map (tv ad)) (n := nL) (by rw [sl_len]; exact ha)
  rw [lva_map] at hl
  rw [lg_entry_eq]
  exact body ((p, l, e, (headSpec ws (rmN n)).room, s), (m, _, below, meth, c), _, (D, cy, ad), (AA ad s.heap.size, nL)) ⟨B.exec, B.bytes, hml, hown, hts, hK, hAd, fun i hi => Or.inl ⟨i, hi, rfl⟩, fun q hq => Or.inr hq, hNw, ⟨Nat.le_refl _, Nat.le_refl _⟩, hnL⟩ ⟨rfl, B.returns, B.notSynchronized⟩ rfl s.heap [] _ hP va_S.rf hl
section RET
variable {X : XT} {cc : ByteArray} {own : String} {Ts : List Cond} {n pc : Nat} {lv : List (Nat × AV)} {st : List AV} {S : ST} {post : Option AV → ST → Prop}
theorem r_iret {z : Int} (C : Cx X cc own Ts n) (Rr : Rx X (some .int) post) (hq : post (some (vi z)) S) (d : decode cc pc = .ok (.ireturn, 1)) : At X 0 0 pc lv [vi z] S := by
  obtain ⟨⟨p, l, e, R, s⟩, ⟨m, args, below, meth, c⟩, Q, ⟨D, cy, ad⟩, ⟨A, nL⟩⟩ := X
  obtain ⟨hx, hb, hml, hown, hts, hK, hAd, hAi, hAs, hNw, hR, hnL⟩ := C
  obtain ⟨rfl, hr, hlk⟩ := Rr
  intro H locs ls hP hS hl
  exact W.iret hx hb hr (fun t ht hW => ⟨⟨some (vi z), S, rfl, hq, by rw [ht]; exact hP, va_K.moved hW.alike hK⟩, hS.F ht⟩) hS.2.2 d hlk
theorem r_zret {z : Int} (C : Cx X cc own Ts n) (Rr : Rx X (some .boolean) post) (hz : z = 0 ∨ z = 1) (hq : post (some (vi z)) S) (d : decode cc pc = .ok (.ireturn, 1)) : At X 0 0 pc lv [vi z] S := by
  obtain ⟨⟨p, l, e, R, s⟩, ⟨m, args, below, meth, c⟩, Q, ⟨D, cy, ad⟩, ⟨A, nL⟩⟩ := X
  obtain ⟨hx, hb, hml, hown, hts, hK, hAd, hAi, hAs, hNw, hR, hnL⟩ := C
  obtain ⟨rfl, hr, hlk⟩ := Rr
  intro H locs ls hP hS hl
  exact W.zret hx hb hr (by rcases hz with rfl | rfl <;> rfl) (fun t ht hW => ⟨⟨some (vi z), S, rfl, hq, by rw [ht]; exact hP, va_K.moved hW.alike hK⟩, hS.F ht⟩) hS.2.2 d hlk
theorem r_lret {z : Int} (C : Cx X cc own Ts n) (Rr : Rx X (some .long) post) (hq : post (some (vl z)) S) (d : decode cc pc = .ok (.lreturn, 1)) : At X 0 0 pc lv [vl z] S := by
  obtain ⟨⟨p, l, e, R, s⟩, ⟨m, args, below, meth, c⟩, Q, ⟨D, cy, ad⟩, ⟨A, nL⟩⟩ := X
  obtain ⟨hx, hb, hml, hown, hts, hK, hAd, hAi, hAs, hNw, hR, hnL⟩ := C
  obtain ⟨rfl, hr, hlk⟩ := Rr
  intro H locs ls hP hS hl
  exact W.lret hx hb hr (fun t ht hW => ⟨⟨some (vl z), S, rfl, hq, by rw [ht]; exact hP, va_K.moved hW.alike hK⟩, hS.F ht⟩) hS.2.2 d hlk
theorem r_vret (C : Cx X cc own Ts n) (Rr : Rx X none post) (hq : post none S) (d : decode cc pc = .ok (.return_, 1)) : At X 0 0 pc lv [] S := by
  obtain ⟨⟨p, l, e, R, s⟩, ⟨m, args, below, meth, c⟩, Q, ⟨D, cy, ad⟩, ⟨A, nL⟩⟩ := X
  obtain ⟨hx, hb, hml, hown, hts, hK, hAd, hAi, hAs, hNw, hR, hnL⟩ := C
  obtain ⟨rfl, hr, hlk⟩ := Rr
  intro H locs ls hP hS hl
  exact W.vret hx hb hr (fun t ht hW => ⟨⟨none, S, rfl, hq, by rw [ht]; exact hP, va_K.moved hW.alike hK⟩, hS.F ht⟩) hS.2.2 d hlk
theorem r_aret {o : Option Idn} {C0 : String} (C : Cx X cc own Ts n) (Rr : Rx X (some (.object C0)) post) (hq : post (some (vr o)) S) (d : decode cc pc = .ok (.areturn, 1)) : At X 0 0 pc lv [vr o] S := by
  obtain ⟨⟨p, l, e, R, s⟩, ⟨m, args, below, meth, c⟩, Q, ⟨D, cy, ad⟩, ⟨A, nL⟩⟩ := X
  obtain ⟨hx, hb, hml, hown, hts, hK, hAd, hAi, hAs, hNw, hR, hnL⟩ := C
  obtain ⟨rfl, hr, hlk⟩ := Rr
  intro H locs ls hP hS hl
  exact W.aret hx hb hr (Or.inl ⟨C0, rfl⟩) (va_rf_or _) (fun t ht hW => ⟨⟨some (vr o), S, rfl, hq, by rw [ht]; exact hP, va_K.moved hW.alike hK⟩, hS.F ht⟩) hS.2.2 d hlk
end RET
section CALLS
variable {X : XT} {cc : ByteArray} {own : String} {Ts : List Cond} {n cells slots pc : Nat} {lv : List (Nat × AV)} {st : List AV} {S : ST} {post : Option AV → ST → Prop}
theorem AA_in {A : Addr → Prop} {ad : Idn → Nat} {H0 H : Heap} {locs : List Loc} (hAi : ∀ i ∈ ids, A (ad i)) (hAs : ∀ q, H0.size ≤ q → A q) (hS : va_S A H0 H locs) : ∀ q, AA ad H.size q → A q := by
  intro q h
  rcases h with ⟨i, hi, rfl⟩ | h
  · exact hAi i hi
  · exact hAs q (Nat.le_trans hS.1 h)
theorem c_go {p : Program} {l : Launch} {e : Env} {R : Room} {s : State} {m : MethodId} {args : Array Value} {below : List Frame} {meth : Method} {c : Code} {Q : State → Prop} {D : va_G} {cy : Nat → ClassId} {ad : Idn → Nat} {A : Addr → Prop} {nL : Nat} {H : Heap} {locs : List Loc} {ls : Array Slot} {st0 : List Value} {rest : List AV} {a : Array Value}
    (hK : va_K D vwCl (tysOf cy) s) (hAi : ∀ i ∈ ids, A (ad i)) (hAs : ∀ q, s.heap.size ≤ q → A q) (hS : va_S A s.heap H locs) (hl : lv_has ls nL (lv.map (fun q => (q.1, tv ad q.2))))
    (hr : va_Run p l e R s m args below meth c H locs cells slots 0 0 (F0 m pc ls st0) (rest.map (tv ad)) (Qq D cy ad (AA ad H.size) post a) (AA ad H.size))
    (k : ∀ (v : Option AV) (S' : ST), post v S' → At ((p, l, e, R, s), (m, args, below, meth, c), Q, (D, cy, ad), (A, nL)) cells slots (pc + 3) lv (v.toList ++ rest) S') : W p l e R s m args below meth c H locs cells slots Q (F0 m pc ls st0) := by
  intro T hT Xs
  obtain ⟨v, st₀, t, T', L, h0, X', hL, e1, e2, ⟨⟨w, S', hv, hp, hw, hk1⟩, hz, hk⟩, stp⟩ := hr T hT Xs
  cases hv
  rw [h0] at hz hk
  have hin := AA_in hAi hAs hS
  have hS' : va_S A s.heap T'.heap (locs ++ L) := ⟨Nat.le_trans hS.1 (by rw [e1]; exact hz), fun q h1 h2 => by rw [e1, hk q (Nat.lt_of_lt_of_le h1 hS.1) (fun z => h2 (hin q z))]; exact hS.2.1 q h1 h2, fun q hq => by
      rcases List.mem_append.mp hq with h | h
      · exact hS.2.2 q h
      · exact hin _ (hL q h)⟩
  obtain ⟨t2, a1, b1⟩ := k w S' hp T'.heap (locs ++ L) ls (by rw [e1]; exact hw) hS' hl T' rfl X'
  refine ⟨t2, stp t2 ?_, b1⟩
  have e3 : (w.toList ++ rest).map (tv ad) = (w.map (tv ad)).toList ++ rest.map (tv ad) := by cases w <;> rfl
  rw [e3] at a1
  exact a1
theorem pr_pre {D : va_G} {cy : Nat → ClassId} {ad : Idn → Nat} {as : List AV} {s : State} {H : Heap} (hP : va_P D vwCl (wl cy ad (hp S)) H) (hK : va_K D vwCl (tysOf cy) s) (hNw : NwOK s) :
    FrameBlind (va_Pc (as.map (tv ad)) (Pr D cy ad S H.size)) ∧ ∀ U : State, U.heap = H → s.WarmedH U.vm → va_Pc (as.map (tv ad)) (Pr D cy ad S H.size) (as.map (tv ad)).toArray U :=
  ⟨fun a U g mk q => by
    obtain ⟨q0, q1, qP, qK, qN⟩ := q
    exact ⟨q0, q1, qP, va_K.moved (u := U) (U := U.calling g mk a) (Vm.Alike.refl U.vm) qK, NwOK.same (s := U) (U := U.calling g mk a) rfl qN⟩,
   fun U hU hW => ⟨rfl, by rw [hU], by rw [hU]; exact hP, va_K.moved hW.alike hK, NwOK.moved hW hNw⟩⟩
theorem rm_fit {k n nL' : Nat} {R : Room} (hR : n ≤ R.frames ∧ 40 * n ≤ R.locals) (hk : k < n) (hL : nL' ≤ 21) : (rmN k).frames + 1 ≤ R.frames ∧ 8 + (nL' + 11) + (rmN k).locals ≤ R.locals := by
  show k + 1 ≤ R.frames ∧ 8 + (nL' + 11) + 40 * k ≤ R.locals
  omega
theorem sumc_cat (ad : Idn → Nat) : ∀ as : List AV, ((as.map (tv ad)).map (fun v => v.category)).sum = sumc as
  | [] => rfl
  | a :: r => by
    have ih := sumc_cat ad r
    simp only [List.map_cons, List.sum_cons, sumc, tv_cat]
    rw [ih]
theorem r_callV (C : Cx X cc own Ts n) {idx k nL' na : Nat} {y : MethodName} {ws ws' : List Cond} {bytes : ByteArray} {ret : Option FieldType} {as rest : List AV} {i : Idn} {ci N : Nat} {Cn : String} {T : u_T} {fs : List AV} (hi : i ∈ ids) (hc : hp S i = .inl (ci, fs)) (hcl : vwCl[ci]? = some (Cn, T, N)) (hM : Ct y ws k (vr (some i) :: as) S post) (hG : GoodIn Ts (wsV own idx Cn y ws)) (hd : y.cls = Cn ∧ y.cls ≠ "java/lang/invoke/MethodHandle" ∧ y.cls ≠ "java/lang/invoke/VarHandle" ∧ (parseMethodDescriptor y.desc).map (fun d => d.parameters.length) = some na) (hk : k < n) (hL : nL' ≤ 21) (hna : as.length = na) (hsum : sumc rest ≤ 8) (hW : ws = .code y bytes nL' ret :: ws') (d : decode cc pc = .ok (.invokevirtual idx, 3)) (hst : st = as.reverse ++ vr (some i) :: rest) (kk : ∀ (v : Option AV) (S' : ST), post v S' → At X cells slots (pc + 3) lv (v.toList ++ rest) S') (hcf : cells ≤ X.1.2.2.2.1.cells := by first | exact Nat.zero_le _ | assumption) (hsf : slots ≤ X.1.2.2.2.1.slots := by first | exact Nat.zero_le _ | assumption) : At X cells slots pc lv st S := by
  subst hst
  obtain ⟨⟨p, l, e, R, s⟩, ⟨m, args, below, meth, c⟩, Q, ⟨D, cy, ad⟩, ⟨A, nL⟩⟩ := X
  obtain ⟨hx, hb, hml, hown, hts, hK, hAd, hAi, hAs, hNw, hR, hnL⟩ := C
  intro H locs ls hP hS hl
  have hpre := pr_pre (as := vr (some i) :: as) hP hK hNw
  refine c_go (rest := rest) hK hAi hAs hS hl (va_runV (As := as.map (tv ad)) ⟨hx, hb, hml, hown, hts⟩ (hM l D cy ad H.size hAd) (cwV na hts hG hW rfl rfl hd (rm_fit hR hk hL)) ⟨hpre.1, (by
    obtain ⟨q0, h0, h1⟩ := wl_get (cy := cy) (ad := ad) (h := hp S) hi
    rw [hc] at h1
    exact va_recv hK hP hcl h1), hpre.2⟩ rfl (by rw [List.length_map]; exact hna) hl.1 (by first | (simp; done) | (simp; rfl)) (lv_room (by rw [sumc_cat]; exact hsum)) d ⟨hcf, hsf⟩) kk
theorem r_callU (C : Cx X cc own Ts n) {idx k nL' na : Nat} {y : MethodName} {ws ws' : List Cond} {bytes : ByteArray} {ret : Option FieldType} {as rest : List AV} {i : Idn} {ci N : Nat} {Cn : String} {T : u_T} {fs : List AV} (hi : i ∈ ids) (hc : hp S i = .inl (ci, fs)) (hcl : vwCl[ci]? = some (Cn, T, N)) {owner : String} {x : MethodName} (hM : Ct y ws k (vr (some i) :: as) S post) (hG : GoodIn Ts (va_wsU own idx Cn owner x y ws)) (hd : y = ⟨owner, x.name, x.desc⟩ ∧ owner ≠ "java/lang/invoke/MethodHandle" ∧ owner ≠ "java/lang/invoke/VarHandle" ∧ (parseMethodDescriptor x.desc).map (fun d => d.parameters.length) = some na) (hk : k < n) (hL : nL' ≤ 21) (hna : as.length = na) (hsum : sumc rest ≤ 8) (hW : ws = .code y bytes nL' ret :: ws') (d : decode cc pc = .ok (.invokevirtual idx, 3)) (hst : st = as.reverse ++ vr (some i) :: rest) (kk : ∀ (v : Option AV) (S' : ST), post v S' → At X cells slots (pc + 3) lv (v.toList ++ rest) S') (hcf : cells ≤ X.1.2.2.2.1.cells := by first | exact Nat.zero_le _ | assumption) (hsf : slots ≤ X.1.2.2.2.1.slots := by first | exact Nat.zero_le _ | assumption) : At X cells slots pc lv st S := by
  subst hst
  obtain ⟨⟨p, l, e, R, s⟩, ⟨m, args, below, meth, c⟩, Q, ⟨D, cy, ad⟩, ⟨A, nL⟩⟩ := X
  obtain ⟨hx, hb, hml, hown, hts, hK, hAd, hAi, hAs, hNw, hR, hnL⟩ := C
  intro H locs ls hP hS hl
  have hpre := pr_pre (as := vr (some i) :: as) hP hK hNw
  refine c_go (rest := rest) hK hAi hAs hS hl (va_runU (As := as.map (tv ad)) ⟨hx, hb, hml, hown, hts⟩ (hM l D cy ad H.size hAd) (va_cwU na hts hG hW rfl rfl hd.1 hd.2 (rm_fit hR hk hL)) ⟨hpre.1, (by
    obtain ⟨q0, h0, h1⟩ := wl_get (cy := cy) (ad := ad) (h := hp S) hi
    rw [hc] at h1
    exact va_recv hK hP hcl h1), hpre.2⟩ rfl (by rw [List.length_map]; exact hna) hl.1 (by first | (simp; done) | (simp; rfl)) (lv_room (by rw [sumc_cat]; exact hsum)) d ⟨hcf, hsf⟩) kk
theorem r_callO (C : Cx X cc own Ts n) {idx k nL' na : Nat} {y : MethodName} {ws ws' : List Cond} {bytes : ByteArray} {ret : Option FieldType} {as rest : List AV} {i : Idn} {ci N : Nat} {Cn : String} {T : u_T} {fs : List AV} (hi : i ∈ ids) (hc : hp S i = .inl (ci, fs)) (hcl : vwCl[ci]? = some (Cn, T, N)) {owner : String} {x : MethodName} {b0 : ByteArray} {m0 : Nat} {r0 : Option FieldType} (hO : Cond.code ⟨owner, x.name, x.desc⟩ b0 m0 r0 ∈ Ts) (hM : Ct y ws k (vr (some i) :: as) S post) (hG : GoodIn Ts (va_wsO own idx Cn owner x y ws)) (hd : owner ≠ "java/lang/invoke/MethodHandle" ∧ owner ≠ "java/lang/invoke/VarHandle" ∧ (parseMethodDescriptor x.desc).map (fun d => d.parameters.length) = some na) (hk : k < n) (hL : nL' ≤ 21) (hna : as.length = na) (hsum : sumc rest ≤ 8) (hW : ws = .code y bytes nL' ret :: ws') (d : decode cc pc = .ok (.invokevirtual idx, 3)) (hst : st = as.reverse ++ vr (some i) :: rest) (kk : ∀ (v : Option AV) (S' : ST), post v S' → At X cells slots (pc + 3) lv (v.toList ++ rest) S') (hcf : cells ≤ X.1.2.2.2.1.cells := by first | exact Nat.zero_le _ | assumption) (hsf : slots ≤ X.1.2.2.2.1.slots := by first | exact Nat.zero_le _ | assumption) : At X cells slots pc lv st S := by
  subst hst
  obtain ⟨⟨p, l, e, R, s⟩, ⟨m, args, below, meth, c⟩, Q, ⟨D, cy, ad⟩, ⟨A, nL⟩⟩ := X
  obtain ⟨hx, hb, hml, hown, hts, hK, hAd, hAi, hAs, hNw, hR, hnL⟩ := C
  intro H locs ls hP hS hl
  have hpre := pr_pre (as := vr (some i) :: as) hP hK hNw
  refine c_go (rest := rest) hK hAi hAs hS hl (va_runU (As := as.map (tv ad)) ⟨hx, hb, hml, hown, hts⟩ (hM l D cy ad H.size hAd) (va_cwO na hts hG hW rfl rfl hO hd (rm_fit hR hk hL)) ⟨hpre.1, (by
    obtain ⟨q0, h0, h1⟩ := wl_get (cy := cy) (ad := ad) (h := hp S) hi
    rw [hc] at h1
    exact va_recv hK hP hcl h1), hpre.2⟩ rfl (by rw [List.length_map]; exact hna) hl.1 (by first | (simp; done) | (simp; rfl)) (lv_room (by rw [sumc_cat]; exact hsum)) d ⟨hcf, hsf⟩) kk
theorem r_callS (C : Cx X cc own Ts n) {idx k nL' na : Nat} {y : MethodName} {ws ws' : List Cond} {bytes : ByteArray} {ret : Option FieldType} {as rest : List AV} (hM : Ct y ws k as S post) (hG : GoodIn Ts (va_wsS own idx y ws)) (hd : y.cls ≠ "java/lang/invoke/MethodHandle" ∧ y.cls ≠ "java/lang/invoke/VarHandle" ∧ (parseMethodDescriptor y.desc).map (fun d => d.parameters.length) = some na) (hk : k < n) (hL : nL' ≤ 21) (hna : as.length = na) (hsum : sumc rest ≤ 8) (hW : ws = .code y bytes nL' ret :: ws') (d : decode cc pc = .ok (.invokestatic idx, 3)) (hst : st = as.reverse ++ rest) (kk : ∀ (v : Option AV) (S' : ST), post v S' → At X cells slots (pc + 3) lv (v.toList ++ rest) S') (hcf : cells ≤ X.1.2.2.2.1.cells := by first | exact Nat.zero_le _ | assumption) (hsf : slots ≤ X.1.2.2.2.1.slots := by first | exact Nat.zero_le _ | assumption) : At X cells slots pc lv st S := by
  subst hst
  obtain ⟨⟨p, l, e, R, s⟩, ⟨m, args, below, meth, c⟩, Q, ⟨D, cy, ad⟩, ⟨A, nL⟩⟩ := X
  obtain ⟨hx, hb, hml, hown, hts, hK, hAd, hAi, hAs, hNw, hR, hnL⟩ := C
  intro H locs ls hP hS hl
  have hpre := pr_pre (as := as) hP hK hNw
  refine c_go (rest := rest) hK hAi hAs hS hl (va_runS (As := as.map (tv ad)) ⟨hx, hb, hml, hown, hts⟩ (hM l D cy ad H.size hAd) (va_cwS na hts hG hW rfl rfl hd (rm_fit hR hk hL)) hpre rfl (by rw [List.length_map]; exact hna) hl.1 (by first | (simp; done) | (simp; rfl)) (lv_room (by rw [sumc_cat]; exact hsum)) d ⟨hcf, hsf⟩) kk
theorem r_callSN (C : Cx X cc own Ts n) {idx k nL' na : Nat} {y : MethodName} {ws ws' : List Cond} {bytes : ByteArray} {ret : Option FieldType} {as rest : List AV} (hNl : (own, idx, y) ∈ nwl) (hIni : Cond.initialized y.cls ∈ Ts) (hSt : Cond.static y ∈ Ts) (hM : Ct y ws k as S post) (hG : GoodIn Ts ws) (hd : y.cls ≠ "java/lang/invoke/MethodHandle" ∧ y.cls ≠ "java/lang/invoke/VarHandle" ∧ (parseMethodDescriptor y.desc).map (fun d => d.parameters.length) = some na) (hk : k < n) (hL : nL' ≤ 21) (hna : as.length = na) (hsum : sumc rest ≤ 8) (hW : ws = .code y bytes nL' ret :: ws') (d : decode cc pc = .ok (.invokestatic idx, 3)) (hst : st = as.reverse ++ rest) (kk : ∀ (v : Option AV) (S' : ST), post v S' → At X cells slots (pc + 3) lv (v.toList ++ rest) S') (hcf : cells ≤ X.1.2.2.2.1.cells := by first | exact Nat.zero_le _ | assumption) (hsf : slots ≤ X.1.2.2.2.1.slots := by first | exact Nat.zero_le _ | assumption) : At X cells slots pc lv st S := by
  subst hst
  obtain ⟨⟨p, l, e, R, s⟩, ⟨m, args, below, meth, c⟩, Q, ⟨D, cy, ad⟩, ⟨A, nL⟩⟩ := X
  obtain ⟨hx, hb, hml, hown, hts, hK, hAd, hAi, hAs, hNw, hR, hnL⟩ := C
  intro H locs ls hP hS hl
  have hpre := pr_pre (as := as) hP hK hNw
  refine c_go (rest := rest) hK hAi hAs hS hl (va_runSN (As := as.map (tv ad)) ⟨hx, hb, hml, hown, hts⟩ (hM l D cy ad H.size hAd) (⟨va_cnB na hts hG hW rfl rfl (hNw.1 _ hNl) (hts _ hIni) hd (rm_fit hR hk hL), hts _ hSt, trivial⟩) hpre rfl (by rw [List.length_map]; exact hna) hl.1 (by first | (simp; done) | (simp; rfl)) (lv_room (by rw [sumc_cat]; exact hsum)) d ⟨hcf, hsf⟩) kk
theorem r_mmax {a b : Int} {idx : Nat} {rest : List AV} (C : Cx X cc own Ts n) (hn : 0 < n) (hlk : Cond.methodLink own idx Lib.Math.max.name ∈ Ts) (hstt : Cond.static Lib.Math.max.name ∈ Ts) (hini : Cond.initialized "java/lang/Math" ∈ Ts) (hcode : Cond.code Lib.Math.max.name Lib.Math.max.code 2 (some .int) ∈ Ts) (ha : -2147483648 ≤ a ∧ a < 2147483648) (hb2 : -2147483648 ≤ b ∧ b < 2147483648) (hsum : sumc rest ≤ 8) (d : decode cc pc = .ok (.invokestatic idx, 3)) (k : At X cells slots (pc + 3) lv (vi (max a b) :: rest) S) (hcf : cells ≤ X.1.2.2.2.1.cells := by first | exact Nat.zero_le _ | assumption) (hsf : slots ≤ X.1.2.2.2.1.slots := by first | exact Nat.zero_le _ | assumption) : At X cells slots pc lv (vi b :: vi a :: rest) S := by
  obtain ⟨⟨p, l, e, R, s⟩, ⟨m, args, below, meth, c⟩, Q, ⟨D, cy, ad⟩, ⟨A, nL⟩⟩ := X
  obtain ⟨hx, hb, hml, hown, hts, hK, hAd, hAi, hAs, hNw, hR, hnL⟩ := C
  intro H locs ls hP hS hl
  have hh := k H locs ls hP hS hl
  have e0 : Int32.ofInt (max a b) = (if Int32.ofInt a < Int32.ofInt b then Int32.ofInt b else Int32.ofInt a) := by
    have h3 := i32_lt ha hb2
    by_cases q : a < b
    · rw [if_pos (h3.mpr q)]; congr 1; omega
    · rw [if_neg (fun z => q (h3.mp z))]; congr 1; omega
  simp only [List.map_cons, tv, e0] at hh
  have hf1 : 1 ≤ R.frames := by omega
  have hl1 : ((rest.map (tv ad)).map fun v => v.category).sum + 13 ≤ R.locals := by rw [sumc_cat]; omega
  exact va_mmax hx hb (hml.trans hl.1.symm) hown (hts _ hlk) (hts _ hstt) (hts _ hini) (hts _ hcode) hf1 hl1 hcf hsf d hh
theorem r_mmin {a b : Int} {idx : Nat} {rest : List AV} (C : Cx X cc own Ts n) (hn : 0 < n) (hlk : Cond.methodLink own idx Lib.Math.min.name ∈ Ts) (hstt : Cond.static Lib.Math.min.name ∈ Ts) (hini : Cond.initialized "java/lang/Math" ∈ Ts) (hcode : Cond.code Lib.Math.min.name Lib.Math.min.code 2 (some .int) ∈ Ts) (ha : -2147483648 ≤ a ∧ a < 2147483648) (hb2 : -2147483648 ≤ b ∧ b < 2147483648) (hsum : sumc rest ≤ 8) (d : decode cc pc = .ok (.invokestatic idx, 3)) (k : At X cells slots (pc + 3) lv (vi (min a b) :: rest) S) (hcf : cells ≤ X.1.2.2.2.1.cells := by first | exact Nat.zero_le _ | assumption) (hsf : slots ≤ X.1.2.2.2.1.slots := by first | exact Nat.zero_le _ | assumption) : At X cells slots pc lv (vi b :: vi a :: rest) S := by
  obtain ⟨⟨p, l, e, R, s⟩, ⟨m, args, below, meth, c⟩, Q, ⟨D, cy, ad⟩, ⟨A, nL⟩⟩ := X
  obtain ⟨hx, hb, hml, hown, hts, hK, hAd, hAi, hAs, hNw, hR, hnL⟩ := C
  intro H locs ls hP hS hl
  have hh := k H locs ls hP hS hl
  have e0 : Int32.ofInt (min a b) = (if Int32.ofInt b < Int32.ofInt a then Int32.ofInt b else Int32.ofInt a) := by
    have h3 := i32_lt hb2 ha
    by_cases q : b < a
    · rw [if_pos (h3.mpr q)]; congr 1; omega
    · rw [if_neg (fun z => q (h3.mp z))]; congr 1; omega
  simp only [List.map_cons, tv, e0] at hh
  have hf1 : 1 ≤ R.frames := by omega
  have hl1 : ((rest.map (tv ad)).map fun v => v.category).sum + 13 ≤ R.locals := by rw [sumc_cat]; omega
  exact va_mmin hx hb (hml.trans hl.1.symm) hown (hts _ hlk) (hts _ hstt) (hts _ hini) (hts _ hcode) hf1 hl1 hcf hsf d hh
end CALLS
end
section
theorem wb_tb (n : Nat) : (lN n).toBitVec = BitVec.ofNat 64 n := rfl
theorem wb_inj {a b : Int64} (h : a.toBitVec = b.toBitVec) : a = b := Int64.toBitVec_inj.mp h
theorem wb_tn {n : Nat} (h : n < 2 ^ 64) : (lN n).toBitVec.toNat = n := by rw [wb_tb, BitVec.toNat_ofNat, Nat.mod_eq_of_lt h]
theorem wb_c : ∀ k, k < 64 → ((nI k).toInt64 &&& 63) = lN k := by decide +kernel
theorem wb_cu : ∀ k, k < 64 → ((nI k).toInt64.toUInt64 &&& Int64.toUInt64 63) = UInt64.ofNat k := by decide +kernel
theorem wb_sm : ∀ k, k < 64 → (BitVec.ofNat 64 k).smod 64 = BitVec.ofNat 64 k := by decide +kernel
theorem wb_shr {n k : Nat} (hn : n < 2 ^ 64) (hk : k < 64) : ((lN n).toUInt64 >>> ((nI k).toInt64.toUInt64 &&& Int64.toUInt64 63)).toInt64 = lN (n / 2 ^ k) := by
  rw [wb_cu k hk]
  apply wb_inj
  apply BitVec.eq_of_toNat_eq
  show ((lN n).toUInt64 >>> UInt64.ofNat k).toNat = (BitVec.ofNat 64 _).toNat
  have h1 : (UInt64.ofNat k).toNat = k := by
    show (BitVec.ofNat 64 k).toNat = k
    rw [BitVec.toNat_ofNat, Nat.mod_eq_of_lt (by omega)]
  have h2 : (lN n).toUInt64.toNat = n := wb_tn hn
  rw [UInt64.toNat_shiftRight, h1, h2, Nat.mod_eq_of_lt hk, Nat.shiftRight_eq_div_pow, BitVec.toNat_ofNat, Nat.mod_eq_of_lt (Nat.lt_of_le_of_lt (Nat.div_le_self _ _) hn)]
theorem wb_shl (n : Nat) {k : Nat} (hk : k < 64) : lN n <<< ((nI k).toInt64 &&& 63) = lN (n * 2 ^ k) := by
  rw [wb_c k hk]
  apply wb_inj
  rw [Int64.toBitVec_shiftLeft, wb_tb, wb_tb, wb_tb, wb_sm k hk]
  apply BitVec.eq_of_toNat_eq
  rw [BitVec.shiftLeft_eq', BitVec.toNat_shiftLeft, BitVec.toNat_ofNat, BitVec.toNat_ofNat, BitVec.toNat_ofNat, Nat.mod_eq_of_lt (show k < 2 ^ 64 by omega), Nat.shiftLeft_eq, Nat.mul_mod, Nat.mod_mod, ← Nat.mul_mod]
theorem pf_lI {a : Nat} (h : a < 2 ^ 63) : (lN a).toInt = (a : Int) := lg_ofNat_toInt h
theorem pf_shr {a d : Nat} {D : Int64} (hD : (D.toBitVec.smod 64).toNat = d) (h : a < 2 ^ 62) : lN a >>> D = lN (a / 2 ^ d) := by
  have hd : a / 2 ^ d ≤ a := Nat.div_le_self _ _
  apply Int64.toInt_inj.mp
  have e : (lN a >>> D).toInt = (lN a).toInt >>> d := by
    rw [← hD]
    exact BitVec.toInt_sshiftRight ..
  rw [e, Int.shiftRight_eq_div_pow, pf_lI (by omega), pf_lI (by omega)]
  rfl
theorem fb_andL (a b : Nat) : lN a &&& lN b = lN (a &&& b) := by
  apply Int64.toBitVec_inj.1
  show BitVec.ofNat 64 a &&& BitVec.ofNat 64 b = BitVec.ofNat 64 (a &&& b)
  apply BitVec.eq_of_getLsbD_eq
  intro i hi
  simp [hi]
theorem fb_orL (a b : Nat) : lN a ||| lN b = lN (a ||| b) := by
  apply Int64.toBitVec_inj.1
  show BitVec.ofNat 64 a ||| BitVec.ofNat 64 b = BitVec.ofNat 64 (a ||| b)
  apply BitVec.eq_of_getLsbD_eq
  intro i hi
  simp [hi]
theorem m_lN (n : Nat) : Int64.ofInt (n : Int) = lN n := Int64.ofInt_eq_ofNat
theorem m_sh : ∀ k, k < 32 → ((nI k &&& 31).toBitVec.smod 32).toNat = k := by decide +kernel
theorem m_ishr {a k : Nat} (ha : a < 2147483648) (hk : k < 32) : Int32.ofInt (a : Int) >>> (Int32.ofInt (k : Int) &&& 31) = Int32.ofInt ((a / 2 ^ k : Nat) : Int) := by
  rw [i32_nat, i32_nat, i32_nat]
  exact pk_shrN ha _ k (m_sh k hk)
theorem m_iand1 {a : Nat} (ha : a < 4294967296) : Int32.ofInt (a : Int) &&& Int32.ofInt 1 = Int32.ofInt ((a % 2 : Nat) : Int) := by
  rw [i32_nat, i32_nat]
  exact pk_andN ha (m := Int32.ofInt 1) 1 rfl
def ctr (a : Nat) : Nat := if a % 2 = 0 then a + 1 else a - 1
theorem ctr_lt {a : Nat} (h : a < 16) : ctr a < 16 := by unfold ctr; split <;> omega
theorem m_ixor1 : ∀ a : Nat, a < 16 → Int32.ofInt (a : Int) ^^^ Int32.ofInt 1 = Int32.ofInt ((ctr a : Nat) : Int) := by decide +kernel
theorem m_s64 : ∀ k, k < 64 → (((nI k).toInt64 &&& 63).toBitVec.smod 64).toNat = k := by decide +kernel
theorem m_lshl1 {k : Nat} (hk : k < 63) : Int64.ofInt 1 <<< ((Int32.ofInt (k : Int)).toInt64 &&& 63) = Int64.ofInt ((2 ^ k : Nat) : Int) := by
  rw [i32_nat, m_lN, show Int64.ofInt 1 = lN 1 from rfl, wb_shl 1 (by omega), Nat.one_mul]
theorem m_lshr {B k : Nat} (hB : B < 2 ^ 62) (hk : k < 64) : Int64.ofInt (B : Int) >>> ((Int32.ofInt (k : Int)).toInt64 &&& 63) = Int64.ofInt ((B / 2 ^ k : Nat) : Int) := by
  rw [i32_nat, m_lN, m_lN]
  exact pf_shr (m_s64 k hk) hB
theorem m_lushr {B k : Nat} (hB : B < 2 ^ 64) (hk : k < 64) : ((Int64.ofInt (B : Int)).toUInt64 >>> ((Int32.ofInt (k : Int)).toInt64.toUInt64 &&& Int64.toUInt64 63)).toInt64 = Int64.ofInt ((B / 2 ^ k : Nat) : Int) := by
  rw [i32_nat, m_lN, m_lN]
  exact wb_shr hB hk
theorem m_land1 (x : Nat) : Int64.ofInt (x : Int) &&& Int64.ofInt 1 = Int64.ofInt ((x % 2 : Nat) : Int) := by
  rw [m_lN, m_lN, show Int64.ofInt 1 = lN 1 from rfl, fb_andL, Nat.and_one_is_mod]
theorem m_lor (a b : Nat) : Int64.ofInt (a : Int) ||| Int64.ofInt (b : Int) = Int64.ofInt ((a ||| b : Nat) : Int) := by
  rw [m_lN, m_lN, m_lN, fb_orL]
theorem m_cmp (b : Nat) (hb : b % 2 = 0 ∨ b % 2 = 1) : lg_cmp (Int64.ofInt ((b % 2 : Nat) : Int)) (Int64.ofInt 1) = Int32.ofInt (if b % 2 = 1 then 0 else -1) := by
  rcases hb with h | h <;> rw [h] <;> decide +kernel
-- bit sets, first, counts
def bset (p : Nat → Bool) (n : Nat) : Nat := match n with
  | 0 => 0
  | n + 1 => if p n = true then bset p n ||| 2 ^ n else bset p n
theorem bset_bit (p : Nat → Bool) : ∀ n k, (bset p n).testBit k = (decide (k < n) && p k)
  | 0, k => by simp [bset]
  | n + 1, k => by
    have ih := bset_bit p n k
    unfold bset
    by_cases h : p n = true
    · rw [if_pos h, Nat.testBit_or, ih, Nat.testBit_two_pow]
      by_cases hk : n = k
      · subst hk; simp [h]
      · have h2 : (k < n + 1) ↔ (k < n) := by omega
        simp [hk, h2]
    · rw [if_neg h, ih]
      by_cases hk : k = n
      · subst hk; simp [h]
      · have h2 : (k < n + 1) ↔ (k < n) := by omega
        simp [h2]
theorem bset_lt (p : Nat → Bool) (n : Nat) : bset p n < 2 ^ n := Nat.lt_pow_two_of_testBit _ (fun i hi => by
  rw [bset_bit]
  have h : ¬ i < n := by omega
  simp [h])
theorem bset_lt62 (p : Nat → Bool) {n : Nat} (h : n ≤ 40) : bset p n < 2 ^ 40 := Nat.lt_of_lt_of_le (bset_lt p n) (Nat.pow_le_pow_right (by decide) h)
def fo (p : Nat → Bool) (n d : Nat) : Nat := match n with
  | 0 => d
  | n + 1 => if p d = true then d else fo p n (d + 1)
theorem fo_ge (p : Nat → Bool) : ∀ n d, d ≤ fo p n d
  | 0, d => Nat.le_refl d
  | n + 1, d => by
    have ih := fo_ge p n (d + 1)
    unfold fo
    split <;> omega
theorem fo_le (p : Nat → Bool) : ∀ n d, fo p n d ≤ d + n
  | 0, d => Nat.le_refl d
  | n + 1, d => by
    have ih := fo_le p n (d + 1)
    unfold fo
    split <;> omega
theorem fo_congr {p q : Nat → Bool} : ∀ n d, (∀ k, d ≤ k → k < d + n → p k = q k) → fo p n d = fo q n d
  | 0, d, _ => rfl
  | n + 1, d, h => by
    unfold fo
    rw [h d (Nat.le_refl d) (by omega), fo_congr n (d + 1) (fun k h1 h2 => h k (by omega) (by omega))]
theorem fo_step (p : Nat → Bool) {d : Nat} (h : d < 40) : fo p (40 - d) d = if p d = true then d else fo p (40 - (d + 1)) (d + 1) := by
  rw [show 40 - d = (40 - (d + 1)) + 1 by omega]
  rfl
/-- how many of a .. a + n - 1 -/
def cnt (p : Nat → Bool) (a n : Nat) : Nat := match n with
  | 0 => 0
  | n + 1 => cnt p a n + (if p (a + n) = true then 1 else 0)
theorem cnt_le (p : Nat → Bool) (a : Nat) : ∀ n, cnt p a n ≤ n
  | 0 => Nat.le_refl 0
  | n + 1 => by
    have ih := cnt_le p a n
    unfold cnt
    split <;> omega
theorem cnt_congr {p q : Nat → Bool} (a : Nat) : ∀ n, (∀ k, k < n → p (a + k) = q (a + k)) → cnt p a n = cnt q a n
  | 0, _ => rfl
  | n + 1, h => by
    unfold cnt
    rw [cnt_congr a n (fun k hk => h k (by omega)), h n (by omega)]
theorem cnt_split (p : Nat → Bool) (a m : Nat) : ∀ n, cnt p a (m + n) = cnt p a m + cnt p (a + m) n
  | 0 => rfl
  | n + 1 => by
    have ih := cnt_split p a m n
    rw [← Nat.add_assoc]
    show cnt p a (m + n) + _ = _ + (cnt p (a + m) n + _)
    rw [ih, Nat.add_assoc a m n, Nat.add_assoc]
/-- how many bits of a number below 2 ^ 64 are set -/
def pop (B : Nat) : Nat := cnt (fun k => B.testBit k) 0 64
-- the meaning of literals, clauses, questions
def litT (c w : Nat) : Bool := decide (w / 2 ^ (c / 2) % 2 ≠ c % 2)
def enough (t o kd nd : Int) : Bool := if kd = 0 then decide (t = o) else if kd = 1 then decide (0 < t) else decide (nd ≤ t)
def thr (S : ST) (d : Nat) : Bool := decide (ai S 2 0 d ≠ -1)
def tru (S : ST) (c d : Nat) : Bool := thr S d && litT c (ai S 2 0 d).toNat
def IW (S : ST) : Prop := ∀ d, d < 40 → -1 ≤ ai S 2 0 d ∧ ai S 2 0 d ≤ 255
def IQ (S : ST) : Prop := (0 ≤ iv S 3 3 0 ∧ iv S 3 3 0 ≤ 5) ∧ (0 ≤ iv S 3 1 0 ∧ iv S 3 1 0 ≤ 2) ∧ (0 ≤ iv S 3 2 0 ∧ iv S 3 2 0 ≤ 6) ∧ ∀ x, x < 5 → (0 ≤ iv S 5 1 x ∧ iv S 5 1 x ≤ 2) ∧ (0 ≤ iv S 5 2 x ∧ iv S 5 2 x ≤ 6) ∧ (iv S 5 3 x = 0 ∨ iv S 5 3 x = 1) ∧ (0 ≤ iv S 5 4 x ∧ iv S 5 4 x ≤ 6) ∧ ∀ j, j < 6 → 0 ≤ ai S 6 x j ∧ ai S 6 x j < 16
def ctT (S : ST) (x w : Nat) : Bool := (enough (cnt (fun j => litT (ai S 6 x j).toNat w) 0 (iv S 5 4 x).toNat) (iv S 5 4 x) (iv S 5 1 x) (iv S 5 2 x)) != decide (iv S 5 3 x = 1)
def qT (S : ST) (w : Nat) : Bool := enough (cnt (fun x => ctT S x w) 0 (iv S 3 3 0).toNat) (iv S 3 3 0) (iv S 3 1 0) (iv S 3 2 0)
def b2i (b : Bool) : Int := if b = true then 1 else 0
theorem b2i_01 (b : Bool) : b2i b = 0 ∨ b2i b = 1 := by cases b <;> simp [b2i]
theorem b2i_t {b : Bool} (h : b = true) : b2i b = 1 := by simp [b2i, h]
theorem b2i_f {b : Bool} (h : b = false) : b2i b = 0 := by simp [b2i, h]
theorem mid_0 : ((0, 0) : Idn) ∈ ids := by decide +kernel
theorem mid_1 : ((1, 0) : Idn) ∈ ids := by decide +kernel
theorem mid_2 : ((2, 0) : Idn) ∈ ids := by decide +kernel
theorem mid_3 : ((3, 0) : Idn) ∈ ids := by decide +kernel
theorem mid_4 : ((4, 0) : Idn) ∈ ids := by decide +kernel
theorem mid_15 : ((15, 0) : Idn) ∈ ids := by decide +kernel
theorem mid_20 : ((20, 0) : Idn) ∈ ids := by decide +kernel
theorem mid_30 : ((30, 0) : Idn) ∈ ids := by decide +kernel
end
