section
-- ===== PART A: goes FIRST, ahead of the names: the tables' words, and 'selects' of the private methods out of them =====
/-- a private method of a class that the tables say can be made, by its rows of tables_1 -/
def lw_okq (q : MethodName × Nat) : Prop := (q.1.cls ≠ "java/lang/invoke/MethodHandle" ∧ q.1.cls ≠ "java/lang/invoke/VarHandle") ∧ Cond.instantiable q.1.cls q.2 ∈ tables_1 ∧ Cond.privateMethod q.1 ∈ tables_1 ∧ Cond.instanceMethod q.1 ∈ tables_1
theorem lw_p0 : lw_okq (⟨"java/lang/Throwable", "fillInStackTrace", "(I)Ljava/lang/Throwable;"⟩, 6) := ⟨⟨by decide +kernel, by decide +kernel⟩, List.mem_of_getElem? (i := 131) (by decide +kernel), List.mem_of_getElem? (i := 129) (by decide +kernel), List.mem_of_getElem? (i := 130) (by decide +kernel)⟩
theorem lw_p1 : lw_okq (⟨"ChoirPlanner", "checkSinger", "(I)V"⟩, 4) := ⟨⟨by decide +kernel, by decide +kernel⟩, List.mem_of_getElem? (i := 14) (by decide +kernel), List.mem_of_getElem? (i := 198) (by decide +kernel), List.mem_of_getElem? (i := 199) (by decide +kernel)⟩
theorem lw_p2 : lw_okq (⟨"ChoirPlanner$Roster", "sings", "(III)Z"⟩, 5) := ⟨⟨by decide +kernel, by decide +kernel⟩, List.mem_of_getElem? (i := 22) (by decide +kernel), List.mem_of_getElem? (i := 256) (by decide +kernel), List.mem_of_getElem? (i := 257) (by decide +kernel)⟩
theorem lw_p3 : lw_okq (⟨"ChoirPlanner$Piece", "countMoveFaults", "(I)V"⟩, 5) := ⟨⟨by decide +kernel, by decide +kernel⟩, List.mem_of_getElem? (i := 46) (by decide +kernel), List.mem_of_getElem? (i := 287) (by decide +kernel), List.mem_of_getElem? (i := 288) (by decide +kernel)⟩
theorem lw_p4 : lw_okq (⟨"ChoirPlanner$Piece", "stepInto", "(II)I"⟩, 5) := ⟨⟨by decide +kernel, by decide +kernel⟩, List.mem_of_getElem? (i := 46) (by decide +kernel), List.mem_of_getElem? (i := 291) (by decide +kernel), List.mem_of_getElem? (i := 292) (by decide +kernel)⟩
theorem lw_p5 : lw_okq (⟨"ChoirPlanner$Piece", "isParallel", "(III)Z"⟩, 5) := ⟨⟨by decide +kernel, by decide +kernel⟩, List.mem_of_getElem? (i := 46) (by decide +kernel), List.mem_of_getElem? (i := 302) (by decide +kernel), List.mem_of_getElem? (i := 303) (by decide +kernel)⟩
theorem lw_p6 : lw_okq (⟨"ChoirPlanner", "pieceAt", "(I)LChoirPlanner$Piece;"⟩, 4) := ⟨⟨by decide +kernel, by decide +kernel⟩, List.mem_of_getElem? (i := 14) (by decide +kernel), List.mem_of_getElem? (i := 334) (by decide +kernel), List.mem_of_getElem? (i := 335) (by decide +kernel)⟩
theorem lw_p7 : lw_okq (⟨"ChoirPlanner", "nearestShift", "(LChoirPlanner$Piece;I)I"⟩, 4) := ⟨⟨by decide +kernel, by decide +kernel⟩, List.mem_of_getElem? (i := 14) (by decide +kernel), List.mem_of_getElem? (i := 411) (by decide +kernel), List.mem_of_getElem? (i := 412) (by decide +kernel)⟩
theorem lw_p8 : lw_okq (⟨"ChoirPlanner", "bestSet", "(II)I"⟩, 4) := ⟨⟨by decide +kernel, by decide +kernel⟩, List.mem_of_getElem? (i := 14) (by decide +kernel), List.mem_of_getElem? (i := 457) (by decide +kernel), List.mem_of_getElem? (i := 458) (by decide +kernel)⟩
theorem lw_p9 : lw_okq (⟨"ChoirPlanner", "singableSet", "(I)I"⟩, 4) := ⟨⟨by decide +kernel, by decide +kernel⟩, List.mem_of_getElem? (i := 14) (by decide +kernel), List.mem_of_getElem? (i := 461) (by decide +kernel), List.mem_of_getElem? (i := 462) (by decide +kernel)⟩
theorem lw_p10 : lw_okq (⟨"ChoirPlanner", "lengthOf", "(I)I"⟩, 4) := ⟨⟨by decide +kernel, by decide +kernel⟩, List.mem_of_getElem? (i := 14) (by decide +kernel), List.mem_of_getElem? (i := 465) (by decide +kernel), List.mem_of_getElem? (i := 466) (by decide +kernel)⟩
theorem lw_p11 : lw_okq (⟨"ChoirPlanner", "isBetter", "(II)Z"⟩, 4) := ⟨⟨by decide +kernel, by decide +kernel⟩, List.mem_of_getElem? (i := 14) (by decide +kernel), List.mem_of_getElem? (i := 473) (by decide +kernel), List.mem_of_getElem? (i := 474) (by decide +kernel)⟩
theorem lw_p12 : lw_okq (⟨"ChoirPlannerModel", "refused", "(I)Z"⟩, 11) := ⟨⟨by decide +kernel, by decide +kernel⟩, List.mem_of_getElem? (i := 530) (by decide +kernel), List.mem_of_getElem? (i := 587) (by decide +kernel), List.mem_of_getElem? (i := 588) (by decide +kernel)⟩
theorem lw_p13 : lw_okq (⟨"ChoirPlannerModel", "isSinger", "(I)Z"⟩, 11) := ⟨⟨by decide +kernel, by decide +kernel⟩, List.mem_of_getElem? (i := 530) (by decide +kernel), List.mem_of_getElem? (i := 595) (by decide +kernel), List.mem_of_getElem? (i := 596) (by decide +kernel)⟩
theorem lw_p14 : lw_okq (⟨"ChoirPlannerModel", "isThere", "(II)Z"⟩, 11) := ⟨⟨by decide +kernel, by decide +kernel⟩, List.mem_of_getElem? (i := 530) (by decide +kernel), List.mem_of_getElem? (i := 602) (by decide +kernel), List.mem_of_getElem? (i := 603) (by decide +kernel)⟩
theorem lw_p15 : lw_okq (⟨"ChoirPlannerModel", "firstOf", "(II)I"⟩, 11) := ⟨⟨by decide +kernel, by decide +kernel⟩, List.mem_of_getElem? (i := 530) (by decide +kernel), List.mem_of_getElem? (i := 614) (by decide +kernel), List.mem_of_getElem? (i := 615) (by decide +kernel)⟩
def lw_privs_1 : List (MethodName × Nat) := [(⟨"java/lang/Throwable", "fillInStackTrace", "(I)Ljava/lang/Throwable;"⟩, 6), (⟨"ChoirPlanner", "checkSinger", "(I)V"⟩, 4), (⟨"ChoirPlanner$Roster", "sings", "(III)Z"⟩, 5), (⟨"ChoirPlanner$Piece", "countMoveFaults", "(I)V"⟩, 5), (⟨"ChoirPlanner$Piece", "stepInto", "(II)I"⟩, 5), (⟨"ChoirPlanner$Piece", "isParallel", "(III)Z"⟩, 5), (⟨"ChoirPlanner", "pieceAt", "(I)LChoirPlanner$Piece;"⟩, 4), (⟨"ChoirPlanner", "nearestShift", "(LChoirPlanner$Piece;I)I"⟩, 4), (⟨"ChoirPlanner", "bestSet", "(II)I"⟩, 4), (⟨"ChoirPlanner", "singableSet", "(I)I"⟩, 4), (⟨"ChoirPlanner", "lengthOf", "(I)I"⟩, 4), (⟨"ChoirPlanner", "isBetter", "(II)Z"⟩, 4), (⟨"ChoirPlannerModel", "refused", "(I)Z"⟩, 11), (⟨"ChoirPlannerModel", "isSinger", "(I)Z"⟩, 11), (⟨"ChoirPlannerModel", "isThere", "(II)Z"⟩, 11), (⟨"ChoirPlannerModel", "firstOf", "(II)I"⟩, 11)]
theorem lw_r1 : ∀ q ∈ lw_privs_1, lw_okq q := List.forall_mem_cons.mpr ⟨lw_p0, List.forall_mem_cons.mpr ⟨lw_p1, List.forall_mem_cons.mpr ⟨lw_p2, List.forall_mem_cons.mpr ⟨lw_p3, List.forall_mem_cons.mpr ⟨lw_p4, List.forall_mem_cons.mpr ⟨lw_p5, List.forall_mem_cons.mpr ⟨lw_p6, List.forall_mem_cons.mpr ⟨lw_p7, List.forall_mem_cons.mpr ⟨lw_p8, List.forall_mem_cons.mpr ⟨lw_p9, List.forall_mem_cons.mpr ⟨lw_p10, List.forall_mem_cons.mpr ⟨lw_p11, List.forall_mem_cons.mpr ⟨lw_p12, List.forall_mem_cons.mpr ⟨lw_p13, List.forall_mem_cons.mpr ⟨lw_p14, List.forall_mem_cons.mpr ⟨lw_p15, fun _ h => absurd h List.not_mem_nil⟩⟩⟩⟩⟩⟩⟩⟩⟩⟩⟩⟩⟩⟩⟩⟩
theorem lw_p16 : lw_okq (⟨"ChoirPlannerModel", "lastOf", "(II)I"⟩, 11) := ⟨⟨by decide +kernel, by decide +kernel⟩, List.mem_of_getElem? (i := 530) (by decide +kernel), List.mem_of_getElem? (i := 618) (by decide +kernel), List.mem_of_getElem? (i := 619) (by decide +kernel)⟩
theorem lw_p17 : lw_okq (⟨"ChoirPlannerModel", "isChord", "(II)Z"⟩, 11) := ⟨⟨by decide +kernel, by decide +kernel⟩, List.mem_of_getElem? (i := 530) (by decide +kernel), List.mem_of_getElem? (i := 634) (by decide +kernel), List.mem_of_getElem? (i := 635) (by decide +kernel)⟩
theorem lw_p18 : lw_okq (⟨"ChoirPlannerModel", "isPiece", "(I)Z"⟩, 11) := ⟨⟨by decide +kernel, by decide +kernel⟩, List.mem_of_getElem? (i := 530) (by decide +kernel), List.mem_of_getElem? (i := 638) (by decide +kernel), List.mem_of_getElem? (i := 639) (by decide +kernel)⟩
theorem lw_p19 : lw_okq (⟨"ChoirPlannerModel", "floorOf", "(III)I"⟩, 11) := ⟨⟨by decide +kernel, by decide +kernel⟩, List.mem_of_getElem? (i := 530) (by decide +kernel), List.mem_of_getElem? (i := 642) (by decide +kernel), List.mem_of_getElem? (i := 643) (by decide +kernel)⟩
theorem lw_p20 : lw_okq (⟨"ChoirPlannerModel", "toneAt", "(III)I"⟩, 11) := ⟨⟨by decide +kernel, by decide +kernel⟩, List.mem_of_getElem? (i := 530) (by decide +kernel), List.mem_of_getElem? (i := 646) (by decide +kernel), List.mem_of_getElem? (i := 647) (by decide +kernel)⟩
theorem lw_p21 : lw_okq (⟨"ChoirPlannerModel", "roofOf", "(III)I"⟩, 11) := ⟨⟨by decide +kernel, by decide +kernel⟩, List.mem_of_getElem? (i := 530) (by decide +kernel), List.mem_of_getElem? (i := 650) (by decide +kernel), List.mem_of_getElem? (i := 651) (by decide +kernel)⟩
theorem lw_p22 : lw_okq (⟨"ChoirPlannerModel", "faultsOf", "(II)I"⟩, 11) := ⟨⟨by decide +kernel, by decide +kernel⟩, List.mem_of_getElem? (i := 530) (by decide +kernel), List.mem_of_getElem? (i := 658) (by decide +kernel), List.mem_of_getElem? (i := 659) (by decide +kernel)⟩
theorem lw_p23 : lw_okq (⟨"ChoirPlannerModel", "isParallel", "(IIII)Z"⟩, 11) := ⟨⟨by decide +kernel, by decide +kernel⟩, List.mem_of_getElem? (i := 530) (by decide +kernel), List.mem_of_getElem? (i := 662) (by decide +kernel), List.mem_of_getElem? (i := 663) (by decide +kernel)⟩
theorem lw_p24 : lw_okq (⟨"ChoirPlannerModel", "allFaults", "(I)I"⟩, 11) := ⟨⟨by decide +kernel, by decide +kernel⟩, List.mem_of_getElem? (i := 530) (by decide +kernel), List.mem_of_getElem? (i := 670) (by decide +kernel), List.mem_of_getElem? (i := 671) (by decide +kernel)⟩
theorem lw_p25 : lw_okq (⟨"ChoirPlannerModel", "shiftOf", "(II)I"⟩, 11) := ⟨⟨by decide +kernel, by decide +kernel⟩, List.mem_of_getElem? (i := 530) (by decide +kernel), List.mem_of_getElem? (i := 682) (by decide +kernel), List.mem_of_getElem? (i := 683) (by decide +kernel)⟩
theorem lw_p26 : lw_okq (⟨"ChoirPlannerModel", "fits", "(III)Z"⟩, 11) := ⟨⟨by decide +kernel, by decide +kernel⟩, List.mem_of_getElem? (i := 530) (by decide +kernel), List.mem_of_getElem? (i := 686) (by decide +kernel), List.mem_of_getElem? (i := 687) (by decide +kernel)⟩
theorem lw_p27 : lw_okq (⟨"ChoirPlannerModel", "noDate", "(II)Z"⟩, 11) := ⟨⟨by decide +kernel, by decide +kernel⟩, List.mem_of_getElem? (i := 530) (by decide +kernel), List.mem_of_getElem? (i := 702) (by decide +kernel), List.mem_of_getElem? (i := 703) (by decide +kernel)⟩
theorem lw_p28 : lw_okq (⟨"ChoirPlannerModel", "planned", "(II)I"⟩, 11) := ⟨⟨by decide +kernel, by decide +kernel⟩, List.mem_of_getElem? (i := 530) (by decide +kernel), List.mem_of_getElem? (i := 706) (by decide +kernel), List.mem_of_getElem? (i := 707) (by decide +kernel)⟩
theorem lw_p29 : lw_okq (⟨"ChoirPlannerModel", "lengthOf", "(I)I"⟩, 11) := ⟨⟨by decide +kernel, by decide +kernel⟩, List.mem_of_getElem? (i := 530) (by decide +kernel), List.mem_of_getElem? (i := 710) (by decide +kernel), List.mem_of_getElem? (i := 711) (by decide +kernel)⟩
theorem lw_p30 : lw_okq (⟨"ChoirPlannerModel", "isBetter", "(II)Z"⟩, 11) := ⟨⟨by decide +kernel, by decide +kernel⟩, List.mem_of_getElem? (i := 530) (by decide +kernel), List.mem_of_getElem? (i := 714) (by decide +kernel), List.mem_of_getElem? (i := 715) (by decide +kernel)⟩
theorem lw_p31 : lw_okq (⟨"ChoirPlannerModel", "weakestOf", "(I)I"⟩, 11) := ⟨⟨by decide +kernel, by decide +kernel⟩, List.mem_of_getElem? (i := 530) (by decide +kernel), List.mem_of_getElem? (i := 729) (by decide +kernel), List.mem_of_getElem? (i := 730) (by decide +kernel)⟩
def lw_privs_2 : List (MethodName × Nat) := [(⟨"ChoirPlannerModel", "lastOf", "(II)I"⟩, 11), (⟨"ChoirPlannerModel", "isChord", "(II)Z"⟩, 11), (⟨"ChoirPlannerModel", "isPiece", "(I)Z"⟩, 11), (⟨"ChoirPlannerModel", "floorOf", "(III)I"⟩, 11), (⟨"ChoirPlannerModel", "toneAt", "(III)I"⟩, 11), (⟨"ChoirPlannerModel", "roofOf", "(III)I"⟩, 11), (⟨"ChoirPlannerModel", "faultsOf", "(II)I"⟩, 11), (⟨"ChoirPlannerModel", "isParallel", "(IIII)Z"⟩, 11), (⟨"ChoirPlannerModel", "allFaults", "(I)I"⟩, 11), (⟨"ChoirPlannerModel", "shiftOf", "(II)I"⟩, 11), (⟨"ChoirPlannerModel", "fits", "(III)Z"⟩, 11), (⟨"ChoirPlannerModel", "noDate", "(II)Z"⟩, 11), (⟨"ChoirPlannerModel", "planned", "(II)I"⟩, 11), (⟨"ChoirPlannerModel", "lengthOf", "(I)I"⟩, 11), (⟨"ChoirPlannerModel", "isBetter", "(II)Z"⟩, 11), (⟨"ChoirPlannerModel", "weakestOf", "(I)I"⟩, 11)]
theorem lw_r2 : ∀ q ∈ lw_privs_2, lw_okq q := List.forall_mem_cons.mpr ⟨lw_p16, List.forall_mem_cons.mpr ⟨lw_p17, List.forall_mem_cons.mpr ⟨lw_p18, List.forall_mem_cons.mpr ⟨lw_p19, List.forall_mem_cons.mpr ⟨lw_p20, List.forall_mem_cons.mpr ⟨lw_p21, List.forall_mem_cons.mpr ⟨lw_p22, List.forall_mem_cons.mpr ⟨lw_p23, List.forall_mem_cons.mpr ⟨lw_p24, List.forall_mem_cons.mpr ⟨lw_p25, List.forall_mem_cons.mpr ⟨lw_p26, List.forall_mem_cons.mpr ⟨lw_p27, List.forall_mem_cons.mpr ⟨lw_p28, List.forall_mem_cons.mpr ⟨lw_p29, List.forall_mem_cons.mpr ⟨lw_p30, List.forall_mem_cons.mpr ⟨lw_p31, fun _ h => absurd h List.not_mem_nil⟩⟩⟩⟩⟩⟩⟩⟩⟩⟩⟩⟩⟩⟩⟩⟩
theorem lw_p32 : lw_okq (⟨"ChoirPlannerModel", "weaknessOf", "(II)I"⟩, 11) := ⟨⟨by decide +kernel, by decide +kernel⟩, List.mem_of_getElem? (i := 530) (by decide +kernel), List.mem_of_getElem? (i := 733) (by decide +kernel), List.mem_of_getElem? (i := 734) (by decide +kernel)⟩
def lw_privs_3 : List (MethodName × Nat) := [(⟨"ChoirPlannerModel", "weaknessOf", "(II)I"⟩, 11)]
theorem lw_r3 : ∀ q ∈ lw_privs_3, lw_okq q := List.forall_mem_cons.mpr ⟨lw_p32, fun _ h => absurd h List.not_mem_nil⟩
def lw_privs : List (MethodName × Nat) := lw_privs_1 ++ (lw_privs_2 ++ (lw_privs_3))
def lw_tbl : List Cond := k2_sels lw_privs ++ tables_1
theorem lw_privs_ok : ∀ q ∈ lw_privs, lw_okq q := by
  show ∀ q ∈ lw_privs_1 ++ (lw_privs_2 ++ (lw_privs_3)), lw_okq q
  exact List.forall_mem_append.mpr ⟨lw_r1, List.forall_mem_append.mpr ⟨lw_r2, lw_r3⟩⟩
-- ===== end of PART A; then your names; then what follows =====
/-! ===== BEGIN words of one list among another's, by their places ===== -/
theorem goodIn_r {big : List Cond} (ws : List Cond) (ps : List Nat) (hp : ws = ps.filterMap (fun i => big[i]?)) (h : ws.all goodWord = true) : GoodIn big ws := by
  intro w hw
  have h1 := List.all_eq_true.mp h w hw
  rw [hp] at hw
  obtain ⟨i, -, hi⟩ := List.mem_filterMap.mp hw
  have hm : w ∈ big := by first | exact List.mem_of_getElem? hi | exact List.getElem?_mem hi
  exact ⟨hm, good_of_word h1⟩
theorem goodIn_app {big a b : List Cond} (ha : GoodIn big a) (hb : GoodIn big b) : GoodIn big (a ++ b) := fun w h => (List.mem_append.mp h).elim (ha w) (hb w)
theorem goodIn_ca {big a b : List Cond} {c : Cond} (ha : GoodIn big (c :: a)) (hb : GoodIn big b) : GoodIn big (c :: (a ++ b)) := fun w h => (List.mem_cons.mp h).elim (fun e => ha w (List.mem_cons.mpr (Or.inl e))) (fun h => (List.mem_append.mp h).elim (fun h => ha w (List.mem_cons.mpr (Or.inr h))) (hb w))
theorem goodIn_sub {big ws : List Cond} (hm : ∀ w ∈ ws, w ∈ big) (h : ws.all goodWord = true) : GoodIn big ws := fun w hw => ⟨hm w hw, good_of_word (List.all_eq_true.mp h w hw)⟩
/-! ===== END ===== -/

/-! ===== BEGIN exceptions that leave a method, and their catching by the caller (launches without stack traces) ===== -/
section VXA
/-! The laws vx_back, vx_callV, vx_callS, vx_callSW, vx_throw0, vx_throwS follow proofs of the library, with one case more: JvmDerived/Free/Laws.lean (Back.of_free), Shelf42/LK1.lean (callV, callS), Shelf/KitTraced.lean (throwNew0V, throwNewS). -/
/-- where a method has thrown q: the class by its name, the cell, what was written, the world -/
def vx_T (XC : String → State → State → Prop) (st : State) (q : Addr) (t : State) (mc ms : Nat) (free : Addr → Prop) : Prop :=
  ∃ (E : String) (ce : Cell) (L : List Loc), XC E st t ∧ t.heap[q]? = some ce ∧ ce.vm = .none ∧ st.vm.findClass E = some ce.cls ∧ st.WarmedH t.vm ∧ st.sameButNew ({ t with vm := st.vm } : State) L mc ms ∧ ∀ z ∈ L, free z.base
def vx_Q (Qc : Array Value → State → Outcome → State → Prop) (XC : String → State → State → Prop) (mc ms : Nat) (free : Addr → Prop) : Array Value → State → Outcome → State → Prop := fun a st o t =>
  (Qc a st o t ∧ ∃ L, FrameEnd st o t L mc ms ∧ ∀ q ∈ L, free q.base) ∨ ∃ q, o = .threw q ∧ vx_T XC st q t mc ms free
/-- a callee that returns or throws -/
def vx_Met (l : Launch) (y : MethodName) (ws : List Cond) (rm : Room) (Pc : Array Value → State → Prop) (Qc : Array Value → State → Outcome → State → Prop) (XC : String → State → State → Prop) (mc ms : Nat) (free : Addr → Prop) : Prop :=
  MetFree l y (headSpec ws rm) Pc (fun _ _ _ _ _ => True) (vx_Q Qc XC mc ms free)
def vx_Post (XC : String → State → State → Prop) (mc ms : Nat) (free : Addr → Prop) : Pt → Array Value → Addr → Pt → Prop := fun A a q B =>
  ∃ (g : JFrame) (mk : MethodId) (t : State) (L : List Loc) (E : String) (ce : Cell), B.U.heap = t.heap ∧ B.U.vm = t.vm ∧ XC E (A.U.calling g mk a) t ∧ t.heap[q]? = some ce ∧ ce.vm = .none ∧ A.U.vm.findClass E = some ce.cls ∧ B.locs = A.locs ++ L ∧ (∀ z ∈ L, free z.base) ∧ B.cells = A.cells + mc ∧ B.slots = A.slots + ms
def vx_Back (l : Launch) (R : Room) (p : Program) (e : Env) (below : List Frame) (s : State) (sargs : Array Value) (y : MethodName) (len W9 : Nat)
    (Pre : Pt → Array Value → Prop) (Post : Pt → Array Value → Option Value → Pt → Prop) (PostX : Pt → Array Value → Addr → Pt → Prop) : Prop :=
  ∀ (m : MethodId) (meth : Method) (c : Code) (A : Pt) (g : JFrame) (ig : Instr) (mk : MethodId) (a : Array Value),
    Stand p l e R s m sargs below meth c A.U A.locs A.cells A.slots → g.method = m → g.locals.size = c.maxLocals → decode c.code g.pc = .ok (ig, len) →
    2 * g.monitorRoom + (g.stack.map fun v => v.category).sum ≤ W9 → A.U.methodNamed? y = some mk → Pre A a →
    (∃ (v : Option Value) (B : Pt), Stand p l e R s m sargs below meth c B.U B.locs B.cells B.slots ∧ Post A a v B ∧
      Steps p.tables e below (doInvoke e (A.U.setTop g) [] mk a).1 (B.U.setTop { g with pc := g.pc + len, stack := v.toList ++ g.stack })) ∨
    (∃ (q : Addr) (B : Pt), Stand p l e R s m sargs below meth c B.U B.locs B.cells B.slots ∧ PostX A a q B ∧
      Steps p.tables e below (doInvoke e (A.U.setTop g) [] mk a).1 ((B.U.setTop g).pushFrame (.throwing q)))
section Payer
variable {l : Launch} {R : Room} {p : Program} {e : Env} {below : List Frame} {s : State} {sargs : Array Value} {y : MethodName} {len W9 : Nat}
theorem vx_back {ws : List Cond} {rm : Room} {Pc : Array Value → State → Prop} {Qc : Array Value → State → Outcome → State → Prop} {XC : String → State → State → Prop} {mc ms : Nat} {free : Addr → Prop} {bytes : ByteArray} {maxL : Nat} {ret : Option FieldType}
    (hM : vx_Met l y ws rm Pc Qc XC mc ms free) (hblind : FrameBlind Pc) (hrc : rm.cells = mc) (hrs : rm.slots = ms)
    (hframes : rm.frames + 1 ≤ R.frames) (hlocals : W9 + (maxL + 11) + rm.locals ≤ R.locals)
    (hws : ∀ w ∈ ws, ∀ a' U, s.WarmedH U.vm → w.before a' U = true) (hcode : Cond.code y bytes maxL ret ∈ ws) (hinit : ∀ a' U, s.WarmedH U.vm → (Cond.initialized y.cls).before a' U = true) :
    vx_Back l R p e below s sargs y len W9 (PreOf R mc ms Pc) (PostOf Qc mc ms free) (vx_Post XC mc ms free) := by
  intro m meth c A g ig mk a X hg hsize hdg hW hn hp
  have h1 : (headSpec ws rm).pre.before a A.U = true := atoms_intro fun w hw => hws w hw _ _ X.warmed
  have h2 : (Cond.code y bytes maxL ret).before a A.U = true := hws _ hcode _ _ X.warmed
  have h3 : (Cond.initialized y.cls).before a A.U = true := hinit _ _ X.warmed
  have h4 : A.cells + (headSpec ws rm).room.cells ≤ R.cells := by rw [show (headSpec ws rm).room.cells = mc from hrc]; exact hp.1
  have h5 : A.slots + (headSpec ws rm).room.slots ≤ R.slots := by rw [show (headSpec ws rm).room.slots = ms from hrs]; exact hp.2.1
  have hPc : Pc a (A.U.calling g mk a) := hblind _ _ _ _ hp.2.2
  obtain ⟨U, Ls, c0, s0⟩ := A
  dsimp only [Pt.U, Pt.locs, Pt.cells, Pt.slots] at h1 h2 h3 h4 h5 X hn hPc ⊢
  obtain ⟨methY, cY, hmY, hcY, -, hlY, -, -, -, -⟩ := Cond.code_spec hn h2
  obtain ⟨kY, hkY, -⟩ := className_of_methodNamed hn
  have hinitY : kY.init = .initialized := Cond.initialized_spec (findClass_of_methodNamed hn) hkY h3
  have h : At U g.method c below := by rw [hg]; exact X.here
  have hlocals9 : W9 + (maxL + 11) + (headSpec ws rm).room.locals ≤ R.locals := hlocals
  have happ : (headSpec ws rm).appliesLoose y e.platform (U.calling g mk a) = true :=
    Spec.appliesLoose_calling (g := g) h hdg hn hkY hinitY
      (X.room_calling (g := g) (R' := (headSpec ws rm).room) hsize hmY hcY hframes (by rw [hlY]; omega) h4 h5) h1
  obtain ⟨mid, hmid⟩ := h.above
  have hfr : (U.setTop g).frames = (.java g :: mid) ++ below := by rw [State.frames_setTop' g h.top, hmid]; rfl
  obtain ⟨o, s₂, hsteps, -, hend, hq⟩ := Steps.callFree hM p X.admits X.cas X.clock (acts := []) hfr happ hPc trivial
  have hq' : vx_Q Qc XC mc ms free a (U.calling g mk a) o s₂ := hq
  rw [State.frames_setTop' g h.top] at hend
  obtain ⟨g₀, hg0⟩ := Option.isSome_iff_exists.mp h.top
  obtain ⟨r, hr⟩ := State.topJava?_eq_some.mp hg0
  have hr' : (({ U with heap := s₂.heap, slotsUsed := s₂.slotsUsed } : State).setVm s₂.vm).frames = .java g₀ :: r := hr
  rcases hq' with ⟨hqc, L, hfe, hL⟩ | ⟨q, rfl, E, ce, L, hx, hce, hcv, hcl, hW₂, hsm, hL⟩
  · obtain ⟨⟨v, rfl⟩, hW₂, e2, q2, q3, q4, q5, q6⟩ := id hfe
    have e3 : s₂ = ({ (U.calling g mk a).setFrames s₂.frames with heap := s₂.heap, slotsUsed := s₂.slotsUsed } : State).setVm s₂.vm := by
      have : s₂ = ({ s₂ with vm := (U.calling g mk a).vm } : State).setVm s₂.vm := rfl
      rw [e2] at this
      exact this
    obtain ⟨c₂, i₂, len₂, hc₂, hd₂, hf₂⟩ := hend
    have hW' : U.WarmedH s₂.vm := hW₂
    have hcc : c₂ = c := by
      have h1 : s₂.code? g.method = U.code? g.method := by
        rw [State.code?_eq, State.code?_eq, hW'.alike.method?]
      exact Option.some.inj (hc₂.symm.trans (h1.trans h.code))
    subst hcc
    have hlen : len₂ = len := by rw [hdg] at hd₂; cases hd₂; rfl
    subst hlen
    have hs₂ : s₂ = (({ U with heap := s₂.heap, slotsUsed := s₂.slotsUsed } : State).setVm s₂.vm).setTop { g with pc := g.pc + len₂, stack := v.toList ++ g.stack } := by
      refine e3.trans ?_
      rw [hf₂, State.calling_eq h.top, State.setFrames_setFrames, State.setTop_of_frames _ hr', hr]
      rfl
    have hsame : U.sameButNew ({ U with heap := s₂.heap, slotsUsed := s₂.slotsUsed } : State) L mc ms := by
      refine ⟨?_, q2, q3, q4, q5, q6⟩
      obtain ⟨t, ht, -⟩ := State.frames_cons hr
      show ({ U with heap := s₂.heap, slotsUsed := s₂.slotsUsed } : State) = { U.setFrames U.frames with heap := s₂.heap, slotsUsed := s₂.slotsUsed }
      rw [State.setFrames_self ht]
    subst hg
    refine Or.inl ⟨v, ⟨(({ U with heap := s₂.heap, slotsUsed := s₂.slotsUsed } : State).setVm s₂.vm), Ls ++ L, c0 + mc, s0 + ms⟩,
      ⟨X.admits, X.cas, X.clock, X.frames, X.room, X.hears, X.method, X.code, (X.here.setHeapUsed s₂.heap s₂.slotsUsed).setVm hW'.alike, X.tail, State.WarmedH.trans X.warmed hW', X.limits, X.bytes, X.same.trans (hsame.setVm s.vm)⟩,
      ⟨g, mk, s₂, L, rfl, rfl, hqc, rfl, hL, rfl, rfl⟩, ?_⟩
    show Steps p.tables e below _ ((({ U with heap := s₂.heap, slotsUsed := s₂.slotsUsed } : State).setVm s₂.vm).setTop { g with pc := g.pc + len₂, stack := v.toList ++ g.stack })
    rw [← hs₂]
    exact hsteps
  · obtain ⟨e2, q2, q3, q4, q5, q6⟩ := id hsm
    have e3 : s₂ = ({ (U.calling g mk a).setFrames s₂.frames with heap := s₂.heap, slotsUsed := s₂.slotsUsed } : State).setVm s₂.vm := by
      have : s₂ = ({ s₂ with vm := (U.calling g mk a).vm } : State).setVm s₂.vm := rfl
      rw [e2] at this
      exact this
    have hf₂ : s₂.frames = .throwing q :: .java g :: U.frames.tail := hend
    have hW' : U.WarmedH s₂.vm := hW₂
    have hs₂ : s₂ = ((({ U with heap := s₂.heap, slotsUsed := s₂.slotsUsed } : State).setVm s₂.vm).setTop g).pushFrame (.throwing q) := by
      refine e3.trans ?_
      rw [hf₂, State.calling_eq h.top, State.setFrames_setFrames, State.pushFrame, State.frames_setTop _ hr', State.setTop_of_frames _ hr', State.setFrames_setFrames, hr]
      rfl
    have hsame : U.sameButNew ({ U with heap := s₂.heap, slotsUsed := s₂.slotsUsed } : State) L mc ms := by
      refine ⟨?_, q2, q3, q4, q5, q6⟩
      obtain ⟨t, ht, -⟩ := State.frames_cons hr
      show ({ U with heap := s₂.heap, slotsUsed := s₂.slotsUsed } : State) = { U.setFrames U.frames with heap := s₂.heap, slotsUsed := s₂.slotsUsed }
      rw [State.setFrames_self ht]
    subst hg
    refine Or.inr ⟨q, ⟨(({ U with heap := s₂.heap, slotsUsed := s₂.slotsUsed } : State).setVm s₂.vm), Ls ++ L, c0 + mc, s0 + ms⟩,
      ⟨X.admits, X.cas, X.clock, X.frames, X.room, X.hears, X.method, X.code, (X.here.setHeapUsed s₂.heap s₂.slotsUsed).setVm hW'.alike, X.tail, State.WarmedH.trans X.warmed hW', X.limits, X.bytes, X.same.trans (hsame.setVm s.vm)⟩,
      ⟨g, mk, s₂, L, E, ce, rfl, rfl, hx, hce, hcv, hcl, rfl, hL, rfl, rfl⟩, ?_⟩
    show Steps p.tables e below _ (((({ U with heap := s₂.heap, slotsUsed := s₂.slotsUsed } : State).setVm s₂.vm).setTop g).pushFrame (.throwing q))
    rw [← hs₂]
    exact hsteps
end Payer
section Calls
variable {p : Program} {l : Launch} {e : Env} {R : Room} {s : State} {m : MethodId} {args : Array Value} {below : List Frame} {meth : Method} {c : Code} {T : State} {locs : List Loc} {cells slots : Nat}
theorem vx_callV (X : Stand p l e R s m args below meth c T locs cells slots) (hexec : p.tables.exec = Jvm.exec) {own C : String} {index : Nat} {y : MethodName} {bytes : ByteArray} {maxL : Nat} {ret : Option FieldType}
    (hown : s.vm.findClass own = some m.cls) (hlink : (Cond.methodLink own index y).before args s = true) (hinst : (Cond.instanceMethod y).before args s = true) (hsel : (Cond.selects C y y).before args s = true)
    (hcode : (Cond.code y bytes maxL ret).before args s = true) (hy : y.cls ≠ "java/lang/invoke/MethodHandle" ∧ y.cls ≠ "java/lang/invoke/VarHandle")
    {W9 : Nat} {Pre : Pt → Array Value → Prop} {Post : Pt → Array Value → Option Value → Pt → Prop} {PostX : Pt → Array Value → Addr → Pt → Prop} (hK : vx_Back l R p e below s args y 3 W9 Pre Post PostX)
    {b : Addr} {cellB : Cell} (hcell : T.heap[b]? = some cellB) (hobj : cellB.vm.isStatics = false) (hcls : s.vm.findClass C = some cellB.cls)
    {g : JFrame} (hg : g.method = m) (hsize : g.locals.size = c.maxLocals) {argsL rest : List Value} (hlen : ∀ sig, parseMethodDescriptor y.desc = some sig → argsL.length = sig.parameters.length)
    (hstack : g.stack = argsL.reverse ++ .ref b :: rest) (hW : 2 * g.monitorRoom + (rest.map fun v => v.category).sum ≤ W9) (hdg : decode c.code g.pc = .ok (.invokevirtual index, 3))
    (hpre : ∀ vm₁, s.WarmedH vm₁ → Pre ⟨T.setVm vm₁, locs, cells, slots⟩ (Value.ref b :: argsL).toArray) :
    (∃ (v : Option Value) (vm₁ : Vm) (B : Pt), s.WarmedH vm₁ ∧ Stand p l e R s m args below meth c B.U B.locs B.cells B.slots ∧ Post ⟨T.setVm vm₁, locs, cells, slots⟩ (Value.ref b :: argsL).toArray v B ∧
      ∀ target, Steps p.tables e below (B.U.setTop { g with pc := g.pc + 3, stack := v.toList ++ rest }) target → Steps p.tables e below (T.setTop g) target) ∨
    (∃ (q : Addr) (vm₁ : Vm) (B : Pt), s.WarmedH vm₁ ∧ Stand p l e R s m args below meth c B.U B.locs B.cells B.slots ∧ PostX ⟨T.setVm vm₁, locs, cells, slots⟩ (Value.ref b :: argsL).toArray q B ∧
      Steps p.tables e below (T.setTop g) ((B.U.setTop { g with stack := rest }).pushFrame (.throwing q))) := by
  obtain ⟨mk, methM, hnamed, hmethM, hstM, habM⟩ := Cond.instanceMethod_spec hinst
  obtain ⟨methM', cM, hmethM', -, -, -, -, -, -, hsigM⟩ := Cond.code_spec hnamed hcode
  cases hmethM.symm.trans hmethM'
  obtain ⟨c2, r2, m2, q1, q2, q3, q4, kP, hkP, hkPi⟩ := Cond.selects_spec hsel
  cases hcls.symm.trans q1
  cases (State.methodFound?_of_named hnamed hy).symm.trans q2
  cases hnamed.symm.trans q3
  have hselP : selectMethod e.platform s.vm cellB.cls mk = .method mk := by rw [Launch.admits_selectMethod X.admits]; exact q4
  obtain ⟨vm₁, X₁, hstep₁⟩ := X.invokevirtual hexec hown hlink hnamed hmethM hstM hkP hkPi hy (a := b) (cell := cellB) hcell
    (fun z h => by rw [h] at hobj; cases hobj) hselP hmethM habM hkP hkPi (g := g) hg (argsL := argsL) (rest := rest) (hlen _ hsigM) hstack hdg
  rcases hK m meth c ⟨T.setVm vm₁, locs, cells, slots⟩ { g with stack := rest } (.invokevirtual index) mk (Value.ref b :: argsL).toArray X₁ hg hsize hdg hW (X₁.named hnamed) (hpre vm₁ X₁.warmed) with ⟨v, B, X', hpost, hsteps⟩ | ⟨q, B, X', hpost, hsteps⟩
  · exact Or.inl ⟨v, vm₁, B, X₁.warmed, X', hpost, fun target h => hstep₁ _ fun acts => by rw [doInvoke_state]; exact hsteps.trans h⟩
  · exact Or.inr ⟨q, vm₁, B, X₁.warmed, X', hpost, hstep₁ _ fun acts => by rw [doInvoke_state]; exact hsteps⟩
theorem vx_callS (X : Stand p l e R s m args below meth c T locs cells slots) (hexec : p.tables.exec = Jvm.exec) {own : String} {index : Nat} {y : MethodName} {bytes : ByteArray} {maxL : Nat} {ret : Option FieldType}
    (hown : s.vm.findClass own = some m.cls) (hlink : (Cond.methodLink own index y).before args s = true) (hstat : (Cond.static y).before args s = true) (hinit : (Cond.initialized y.cls).before args s = true)
    (hcode : (Cond.code y bytes maxL ret).before args s = true) (hy : y.cls ≠ "java/lang/invoke/MethodHandle" ∧ y.cls ≠ "java/lang/invoke/VarHandle")
    {W9 : Nat} {Pre : Pt → Array Value → Prop} {Post : Pt → Array Value → Option Value → Pt → Prop} {PostX : Pt → Array Value → Addr → Pt → Prop} (hK : vx_Back l R p e below s args y 3 W9 Pre Post PostX)
    {g : JFrame} (hg : g.method = m) (hsize : g.locals.size = c.maxLocals) {argsL rest : List Value} (hlen : ∀ sig, parseMethodDescriptor y.desc = some sig → argsL.length = sig.parameters.length)
    (hstack : g.stack = argsL.reverse ++ rest) (hW : 2 * g.monitorRoom + (rest.map fun v => v.category).sum ≤ W9) (hdg : decode c.code g.pc = .ok (.invokestatic index, 3))
    (hpre : ∀ vm₁, s.WarmedH vm₁ → Pre ⟨T.setVm vm₁, locs, cells, slots⟩ argsL.toArray) :
    (∃ (v : Option Value) (vm₁ : Vm) (B : Pt), s.WarmedH vm₁ ∧ Stand p l e R s m args below meth c B.U B.locs B.cells B.slots ∧ Post ⟨T.setVm vm₁, locs, cells, slots⟩ argsL.toArray v B ∧
      ∀ target, Steps p.tables e below (B.U.setTop { g with pc := g.pc + 3, stack := v.toList ++ rest }) target → Steps p.tables e below (T.setTop g) target) ∨
    (∃ (q : Addr) (vm₁ : Vm) (B : Pt), s.WarmedH vm₁ ∧ Stand p l e R s m args below meth c B.U B.locs B.cells B.slots ∧ PostX ⟨T.setVm vm₁, locs, cells, slots⟩ argsL.toArray q B ∧
      Steps p.tables e below (T.setTop g) ((B.U.setTop { g with stack := rest }).pushFrame (.throwing q))) := by
  obtain ⟨mk, hnamed⟩ := Cond.code_named hcode
  obtain ⟨methM, cM, hmethM, -, -, -, -, -, -, hsigM⟩ := Cond.code_spec hnamed hcode
  have hstatic : methM.isStatic = true := Cond.static_spec hnamed hmethM hstat
  obtain ⟨kP, hkP, -⟩ := className_of_methodNamed hnamed
  have hinitP : kP.init = .initialized := Cond.initialized_spec (findClass_of_methodNamed hnamed) hkP hinit
  obtain ⟨vm₁, X₁, hstep₁⟩ := X.invokestatic hexec hown hlink hnamed hmethM hstatic hkP hinitP hy (g := g) hg (argsL := argsL) (rest := rest) (hlen _ hsigM) hstack hdg
  rcases hK m meth c ⟨T.setVm vm₁, locs, cells, slots⟩ { g with stack := rest } (.invokestatic index) mk argsL.toArray X₁ hg hsize hdg hW (X₁.named hnamed) (hpre vm₁ X₁.warmed) with ⟨v, B, X', hpost, hsteps⟩ | ⟨q, B, X', hpost, hsteps⟩
  · exact Or.inl ⟨v, vm₁, B, X₁.warmed, X', hpost, fun target h => hstep₁ _ fun acts => by rw [doInvoke_state]; exact hsteps.trans h⟩
  · exact Or.inr ⟨q, vm₁, B, X₁.warmed, X', hpost, hstep₁ _ fun acts => by rw [doInvoke_state]; exact hsteps⟩
end Calls
theorem vx_cls {s : State} {T : State} {vm₁ : Vm} {E : String} {k : ClassId} (hW : s.WarmedH vm₁) (h : (T.setVm vm₁).vm.findClass E = some k) : s.vm.findClass E = some k := by
  have h1 : vm₁.findClass E = some k := h
  rw [hW.alike.findClass] at h1
  exact h1
/-- the method's frame g, with q thrown over it -/
def vx_W (p : Program) (l : Launch) (e : Env) (R : Room) (s : State) (m : MethodId) (args : Array Value) (below : List Frame) (meth : Method) (c : Code) (H : Heap) (locs : List Loc) (cells slots : Nat) (Q : State → Prop) (g : JFrame) (q : Addr) : Prop :=
  ∀ T : State, T.heap = H → Stand p l e R s m args below meth c T locs cells slots → ∃ t, Steps p.tables e below ((T.setTop g).pushFrame (.throwing q)) t ∧ Q t
def vx_Run (p : Program) (l : Launch) (e : Env) (R : Room) (s : State) (m : MethodId) (args : Array Value) (below : List Frame) (meth : Method) (c : Code) (H : Heap) (locs : List Loc) (cells slots mc ms : Nat) (g : JFrame) (rest : List Value) (Qa : State → Outcome → State → Prop) (XC : String → State → State → Prop) (free : Addr → Prop) : Prop :=
  ∀ T : State, T.heap = H → Stand p l e R s m args below meth c T locs cells slots →
    (∃ (v : Option Value) (st₀ t T' : State) (L : List Loc), st₀.heap = H ∧ Stand p l e R s m args below meth c T' (locs ++ L) (cells + mc) (slots + ms) ∧ (∀ q ∈ L, free q.base) ∧ T'.heap = t.heap ∧ T'.vm = t.vm ∧ Qa st₀ (.returned v) t ∧
      Goes p e below T g T' { g with pc := g.pc + 3, stack := v.toList ++ rest }) ∨
    (∃ (q : Addr) (st₀ t T' : State) (L : List Loc) (E : String) (ce : Cell), st₀.heap = H ∧ Stand p l e R s m args below meth c T' (locs ++ L) (cells + mc) (slots + ms) ∧ (∀ z ∈ L, free z.base) ∧ T'.heap = t.heap ∧ T'.vm = t.vm ∧ XC E st₀ t ∧ t.heap[q]? = some ce ∧ ce.vm = .none ∧ s.vm.findClass E = some ce.cls ∧
      Steps p.tables e below (T.setTop g) ((T'.setTop { g with stack := rest }).pushFrame (.throwing q)))
def vx_X {S : Type} (px : S → Prop) (B : String → S → State → Prop) (A : Nat → Prop) : String → State → State → Prop := fun E st t => ∃ u : S, px u ∧ B E u t ∧ va_F A st t
section Runs
variable {p : Program} {l : Launch} {e : Env} {R : Room} {s : State} {m : MethodId} {args : Array Value} {below : List Frame} {meth : Method} {c : Code} {H : Heap} {locs : List Loc} {cells slots : Nat}
variable {y : MethodName} {bytes cc : ByteArray} {maxL nL mc ms n index : Nat} {ret : Option FieldType} {ws : List Cond} {rm : Room} {Pc : Array Value → State → Prop} {Qc : Array Value → State → Outcome → State → Prop} {XC : String → State → State → Prop} {free : Addr → Prop} {Ts : List Cond} {own C : String} {b : Addr} {As rest : List Value} {g : JFrame}
theorem vx_callBack (cb : CallB R s args own index y bytes maxL ret ws rm mc ms n) (hM : vx_Met l y ws rm Pc Qc XC mc ms free) (hbl : FrameBlind Pc) : vx_Back l R p e below s args y 3 8 (PreOf R mc ms Pc) (PostOf Qc mc ms free) (vx_Post XC mc ms free) := by
  obtain ⟨hrc, hrs, hfr, hlo, hws, hcw, -, hini, -⟩ := cb
  exact vx_back (bytes := bytes) (maxL := maxL) (ret := ret) hM hbl hrc hrs hfr hlo hws hcw (fun a' U hW => word_at hW (Or.inl (by first | rfl | simp [Cond.onTables, Cond.keeps, Cond.steady])) hini)
theorem vx_runV (S : CallFix p m c cc nL s args Ts own) (hM : vx_Met l y ws rm Pc Qc XC mc ms free) (cw : CallW R s args own C index y bytes maxL ret ws rm mc ms n) (hp : PreV s H C b Pc As)
    (hg : g.method = m) (hn : As.length = n) (hsize : g.locals.size = nL) (hstack : g.stack = As.reverse ++ .ref b :: rest) (hW : 2 * g.monitorRoom + (rest.map fun v => v.category).sum ≤ 8) (hdg : decode cc g.pc = .ok (.invokevirtual index, 3)) (hf : cells + mc ≤ R.cells ∧ slots + ms ≤ R.slots) :
    vx_Run p l e R s m args below meth c H locs cells slots mc ms g rest (Qc (Value.ref b :: As).toArray) XC free := by
  have hK : vx_Back l R p e below s args y 3 8 (PreOf R mc ms Pc) (PostOf Qc mc ms free) (vx_Post XC mc ms free) := vx_callBack cw.1 hM hp.1
  obtain ⟨⟨-, -, -, -, -, -, hcode, -, hy, hlen, hl⟩, hin, hse⟩ := cw
  obtain ⟨hx, hb, hml, ho, -⟩ := S
  obtain ⟨-, ⟨cellB, hcB, hoB, hclB⟩, hPc⟩ := hp
  intro T hT X
  rcases vx_callV X hx (C := C) (bytes := bytes) (maxL := maxL) (ret := ret) ho hl hin hse hcode hy hK (by rw [hT]; exact hcB) hoB hclB hg (hsize.trans hml.symm) (argsL := As) (rest := rest) (fun sig h => hn.trans (hlen sig h)) hstack hW (by rw [hb]; exact hdg)
    (fun vm₁ hW₁ => ⟨hf.1, hf.2, hPc (T.setVm vm₁) hT hW₁⟩) with ⟨v, vm₁, ⟨U', l2, c2, s2⟩, hW₁, X', ⟨g', mk, t, L, e1, e2, hq, h1, hL, h2, h3⟩, st⟩ | ⟨q, vm₁, ⟨U', l2, c2, s2⟩, hW₁, X', ⟨g', mk, t, L, E, ce, e1, e2, hq, hce, hcv, hcl, h1, hL, h2, h3⟩, st⟩
  · dsimp only [Pt.U, Pt.locs, Pt.cells, Pt.slots] at X' e1 e2 h1 h2 h3 st
    subst h1; subst h2; subst h3
    exact Or.inl ⟨v, (T.setVm vm₁).calling g' mk (Value.ref b :: As).toArray, t, U', L, hT, X', hL, e1, e2, hq, st⟩
  · dsimp only [Pt.U, Pt.locs, Pt.cells, Pt.slots] at X' e1 e2 h1 h2 h3 st hcl
    subst h1; subst h2; subst h3
    exact Or.inr ⟨q, (T.setVm vm₁).calling g' mk (Value.ref b :: As).toArray, t, U', L, E, ce, hT, X', hL, e1, e2, hq, hce, hcv, vx_cls hW₁ hcl, st⟩
theorem vx_runS (S : CallFix p m c cc nL s args Ts own) (hM : vx_Met l y ws rm Pc Qc XC mc ms free) (cw : CallB R s args own index y bytes maxL ret ws rm mc ms n ∧ (Cond.static y).before args s = true) (hp : PreS s H Pc As)
    (hg : g.method = m) (hn : As.length = n) (hsize : g.locals.size = nL) (hstack : g.stack = As.reverse ++ rest) (hW : 2 * g.monitorRoom + (rest.map fun v => v.category).sum ≤ 8) (hdg : decode cc g.pc = .ok (.invokestatic index, 3)) (hf : cells + mc ≤ R.cells ∧ slots + ms ≤ R.slots) :
    vx_Run p l e R s m args below meth c H locs cells slots mc ms g rest (Qc As.toArray) XC free := by
  have hK : vx_Back l R p e below s args y 3 8 (PreOf R mc ms Pc) (PostOf Qc mc ms free) (vx_Post XC mc ms free) := vx_callBack cw.1 hM hp.1
  obtain ⟨⟨-, -, -, -, -, -, hcode, hini, hy, hlen, hl⟩, hstt⟩ := cw
  obtain ⟨hx, hb, hml, ho, -⟩ := S
  intro T hT X
  rcases vx_callS X hx (bytes := bytes) (maxL := maxL) (ret := ret) ho hl hstt hini hcode hy hK hg (hsize.trans hml.symm) (argsL := As) (rest := rest) (fun sig h => hn.trans (hlen sig h)) hstack hW (by rw [hb]; exact hdg)
    (fun vm₁ hW₁ => ⟨hf.1, hf.2, hp.2 (T.setVm vm₁) hT hW₁⟩) with ⟨v, vm₁, ⟨U', l2, c2, s2⟩, hW₁, X', ⟨g', mk, t, L, e1, e2, hq, h1, hL, h2, h3⟩, st⟩ | ⟨q, vm₁, ⟨U', l2, c2, s2⟩, hW₁, X', ⟨g', mk, t, L, E, ce, e1, e2, hq, hce, hcv, hcl, h1, hL, h2, h3⟩, st⟩
  · dsimp only [Pt.U, Pt.locs, Pt.cells, Pt.slots] at X' e1 e2 h1 h2 h3 st
    subst h1; subst h2; subst h3
    exact Or.inl ⟨v, (T.setVm vm₁).calling g' mk As.toArray, t, U', L, hT, X', hL, e1, e2, hq, st⟩
  · dsimp only [Pt.U, Pt.locs, Pt.cells, Pt.slots] at X' e1 e2 h1 h2 h3 st hcl
    subst h1; subst h2; subst h3
    exact Or.inr ⟨q, (T.setVm vm₁).calling g' mk As.toArray, t, U', L, E, ce, hT, X', hL, e1, e2, hq, hce, hcv, vx_cls hW₁ hcl, st⟩
end Runs
section Rows
variable {p : Program} {l : Launch} {e : Env} {R : Room} {s : State} {m : MethodId} {args : Array Value} {below : List Frame} {meth : Method} {c : Code} {H : Heap} {locs : List Loc} {cells slots : Nat} {Q : State → Prop}
variable {mc ms : Nat} {free : Addr → Prop} {A0 A1 : Nat → Prop} {H0 : Heap} {a : Array Value} {pc : Nat} {ls : Array Slot} {st0 rest : List Value}
theorem vx_keep {st₀ t T' : State} {L : List Loc} (h0 : st₀.heap = H) (e1 : T'.heap = t.heap) (hS : va_S A0 H0 H locs) (hA : ∀ q, q < H.size → A1 q → A0 q) (hf : ∀ q, free q → A0 q) (hL : ∀ q ∈ L, free q.base) (hF : va_F A1 st₀ t) :
    H.size ≤ T'.heap.size ∧ (∀ q : Nat, q < H.size → ¬ A1 q → T'.heap[q]? = H[q]?) ∧ va_S A0 H0 T'.heap (locs ++ L) := by
  obtain ⟨hz, hk⟩ := hF
  rw [h0] at hz hk
  exact ⟨by rw [e1]; exact hz, fun q h1 h2 => by rw [e1]; exact hk q h1 h2,
    ⟨Nat.le_trans hS.1 (by rw [e1]; exact hz), fun q h1 h2 => by rw [e1, hk q (Nat.lt_of_lt_of_le h1 hS.1) (fun z => h2 (hA q (Nat.lt_of_lt_of_le h1 hS.1) z))]; exact hS.2.1 q h1 h2, fun q hq => by
      rcases List.mem_append.mp hq with h | h
      · exact hS.2.2 q h
      · exact hf _ (hL q h)⟩⟩
theorem vx_calli {S SX : Type} {post : Int32 → S → Prop} {px : SX → Prop} {B : S → State → Prop} {BX : String → SX → State → Prop} {AX : Nat → Prop} (hr : vx_Run p l e R s m args below meth c H locs cells slots mc ms (F0 m pc ls st0) rest (va_Qi post B A1 a) (vx_X px BX AX) free) (hS : va_S A0 H0 H locs) (hA : ∀ q, q < H.size → A1 q → A0 q) (hf : ∀ q, free q → A0 q) (hAX : ∀ q, q < H.size → AX q → A0 q)
    (kx : ∀ (E : String) (ce : Cell) (q9 : Addr) (u : SX) (t : State) (H1 : Heap) (locs1 : List Loc), t.heap = H1 → s.vm.Alike t.vm → px u → BX E u t → H.size ≤ H1.size → (∀ q : Nat, q < H.size → ¬ AX q → H1[q]? = H[q]?) → va_S A0 H0 H1 locs1 → H1[q9]? = some ce → ce.vm = .none → s.vm.findClass E = some ce.cls → vx_W p l e R s m args below meth c H1 locs1 (cells + mc) (slots + ms) Q (F0 m pc ls rest) q9)
    (kk : ∀ (r : Int32) (u : S) (t : State) (H1 : Heap) (locs1 : List Loc), t.heap = H1 → s.vm.Alike t.vm → post r u → B u t → H.size ≤ H1.size → (∀ q : Nat, q < H.size → ¬ A1 q → H1[q]? = H[q]?) → va_S A0 H0 H1 locs1 → W p l e R s m args below meth c H1 locs1 (cells + mc) (slots + ms) Q (F0 m (pc + 3) ls (.int r :: rest))) : W p l e R s m args below meth c H locs cells slots Q (F0 m pc ls st0) := by
  intro T hT X
  rcases hr T hT X with ⟨v, st₀, t, T', L, h0, X', hL, e1, e2, ⟨⟨r, u, hv, hp, hb⟩, hF⟩, st⟩ | ⟨q, st₀, t, T', L, E, ce, h0, X', hL, e1, e2, ⟨u, hp, hb, hF⟩, hce, hcv, hcl, st⟩
  · cases hv
    obtain ⟨k1, k2, k3⟩ := vx_keep h0 e1 hS hA hf hL hF
    obtain ⟨t2, a1, b1⟩ := kk r u t T'.heap (locs ++ L) e1.symm (by rw [← e2]; exact X'.warmed.alike) hp hb k1 k2 k3 T' rfl X'
    exact ⟨t2, st t2 a1, b1⟩
  · obtain ⟨k1, k2, k3⟩ := vx_keep h0 e1 hS hAX hf hL hF
    obtain ⟨t2, a1, b1⟩ := kx E ce q u t T'.heap (locs ++ L) e1.symm (by rw [← e2]; exact X'.warmed.alike) hp hb k1 k2 k3 (by rw [e1]; exact hce) hcv hcl T' rfl X'
    exact ⟨t2, st.trans a1, b1⟩
theorem vx_calll {S SX : Type} {post : Int64 → S → Prop} {px : SX → Prop} {B : S → State → Prop} {BX : String → SX → State → Prop} {AX : Nat → Prop} (hr : vx_Run p l e R s m args below meth c H locs cells slots mc ms (F0 m pc ls st0) rest (va_Ql post B A1 a) (vx_X px BX AX) free) (hS : va_S A0 H0 H locs) (hA : ∀ q, q < H.size → A1 q → A0 q) (hf : ∀ q, free q → A0 q) (hAX : ∀ q, q < H.size → AX q → A0 q)
    (kx : ∀ (E : String) (ce : Cell) (q9 : Addr) (u : SX) (t : State) (H1 : Heap) (locs1 : List Loc), t.heap = H1 → s.vm.Alike t.vm → px u → BX E u t → H.size ≤ H1.size → (∀ q : Nat, q < H.size → ¬ AX q → H1[q]? = H[q]?) → va_S A0 H0 H1 locs1 → H1[q9]? = some ce → ce.vm = .none → s.vm.findClass E = some ce.cls → vx_W p l e R s m args below meth c H1 locs1 (cells + mc) (slots + ms) Q (F0 m pc ls rest) q9)
    (kk : ∀ (r : Int64) (u : S) (t : State) (H1 : Heap) (locs1 : List Loc), t.heap = H1 → s.vm.Alike t.vm → post r u → B u t → H.size ≤ H1.size → (∀ q : Nat, q < H.size → ¬ A1 q → H1[q]? = H[q]?) → va_S A0 H0 H1 locs1 → W p l e R s m args below meth c H1 locs1 (cells + mc) (slots + ms) Q (F0 m (pc + 3) ls (.long r :: rest))) : W p l e R s m args below meth c H locs cells slots Q (F0 m pc ls st0) := by
  intro T hT X
  rcases hr T hT X with ⟨v, st₀, t, T', L, h0, X', hL, e1, e2, ⟨⟨r, u, hv, hp, hb⟩, hF⟩, st⟩ | ⟨q, st₀, t, T', L, E, ce, h0, X', hL, e1, e2, ⟨u, hp, hb, hF⟩, hce, hcv, hcl, st⟩
  · cases hv
    obtain ⟨k1, k2, k3⟩ := vx_keep h0 e1 hS hA hf hL hF
    obtain ⟨t2, a1, b1⟩ := kk r u t T'.heap (locs ++ L) e1.symm (by rw [← e2]; exact X'.warmed.alike) hp hb k1 k2 k3 T' rfl X'
    exact ⟨t2, st t2 a1, b1⟩
  · obtain ⟨k1, k2, k3⟩ := vx_keep h0 e1 hS hAX hf hL hF
    obtain ⟨t2, a1, b1⟩ := kx E ce q u t T'.heap (locs ++ L) e1.symm (by rw [← e2]; exact X'.warmed.alike) hp hb k1 k2 k3 (by rw [e1]; exact hce) hcv hcl T' rfl X'
    exact ⟨t2, st.trans a1, b1⟩
theorem vx_callf {S SX : Type} {post : UInt32 → S → Prop} {px : SX → Prop} {B : S → State → Prop} {BX : String → SX → State → Prop} {AX : Nat → Prop} (hr : vx_Run p l e R s m args below meth c H locs cells slots mc ms (F0 m pc ls st0) rest (va_Qf post B A1 a) (vx_X px BX AX) free) (hS : va_S A0 H0 H locs) (hA : ∀ q, q < H.size → A1 q → A0 q) (hf : ∀ q, free q → A0 q) (hAX : ∀ q, q < H.size → AX q → A0 q)
    (kx : ∀ (E : String) (ce : Cell) (q9 : Addr) (u : SX) (t : State) (H1 : Heap) (locs1 : List Loc), t.heap = H1 → s.vm.Alike t.vm → px u → BX E u t → H.size ≤ H1.size → (∀ q : Nat, q < H.size → ¬ AX q → H1[q]? = H[q]?) → va_S A0 H0 H1 locs1 → H1[q9]? = some ce → ce.vm = .none → s.vm.findClass E = some ce.cls → vx_W p l e R s m args below meth c H1 locs1 (cells + mc) (slots + ms) Q (F0 m pc ls rest) q9)
    (kk : ∀ (r : UInt32) (u : S) (t : State) (H1 : Heap) (locs1 : List Loc), t.heap = H1 → s.vm.Alike t.vm → post r u → B u t → H.size ≤ H1.size → (∀ q : Nat, q < H.size → ¬ A1 q → H1[q]? = H[q]?) → va_S A0 H0 H1 locs1 → W p l e R s m args below meth c H1 locs1 (cells + mc) (slots + ms) Q (F0 m (pc + 3) ls (.float r :: rest))) : W p l e R s m args below meth c H locs cells slots Q (F0 m pc ls st0) := by
  intro T hT X
  rcases hr T hT X with ⟨v, st₀, t, T', L, h0, X', hL, e1, e2, ⟨⟨r, u, hv, hp, hb⟩, hF⟩, st⟩ | ⟨q, st₀, t, T', L, E, ce, h0, X', hL, e1, e2, ⟨u, hp, hb, hF⟩, hce, hcv, hcl, st⟩
  · cases hv
    obtain ⟨k1, k2, k3⟩ := vx_keep h0 e1 hS hA hf hL hF
    obtain ⟨t2, a1, b1⟩ := kk r u t T'.heap (locs ++ L) e1.symm (by rw [← e2]; exact X'.warmed.alike) hp hb k1 k2 k3 T' rfl X'
    exact ⟨t2, st t2 a1, b1⟩
  · obtain ⟨k1, k2, k3⟩ := vx_keep h0 e1 hS hAX hf hL hF
    obtain ⟨t2, a1, b1⟩ := kx E ce q u t T'.heap (locs ++ L) e1.symm (by rw [← e2]; exact X'.warmed.alike) hp hb k1 k2 k3 (by rw [e1]; exact hce) hcv hcl T' rfl X'
    exact ⟨t2, st.trans a1, b1⟩
theorem vx_calld {S SX : Type} {post : UInt64 → S → Prop} {px : SX → Prop} {B : S → State → Prop} {BX : String → SX → State → Prop} {AX : Nat → Prop} (hr : vx_Run p l e R s m args below meth c H locs cells slots mc ms (F0 m pc ls st0) rest (va_Qd post B A1 a) (vx_X px BX AX) free) (hS : va_S A0 H0 H locs) (hA : ∀ q, q < H.size → A1 q → A0 q) (hf : ∀ q, free q → A0 q) (hAX : ∀ q, q < H.size → AX q → A0 q)
    (kx : ∀ (E : String) (ce : Cell) (q9 : Addr) (u : SX) (t : State) (H1 : Heap) (locs1 : List Loc), t.heap = H1 → s.vm.Alike t.vm → px u → BX E u t → H.size ≤ H1.size → (∀ q : Nat, q < H.size → ¬ AX q → H1[q]? = H[q]?) → va_S A0 H0 H1 locs1 → H1[q9]? = some ce → ce.vm = .none → s.vm.findClass E = some ce.cls → vx_W p l e R s m args below meth c H1 locs1 (cells + mc) (slots + ms) Q (F0 m pc ls rest) q9)
    (kk : ∀ (r : UInt64) (u : S) (t : State) (H1 : Heap) (locs1 : List Loc), t.heap = H1 → s.vm.Alike t.vm → post r u → B u t → H.size ≤ H1.size → (∀ q : Nat, q < H.size → ¬ A1 q → H1[q]? = H[q]?) → va_S A0 H0 H1 locs1 → W p l e R s m args below meth c H1 locs1 (cells + mc) (slots + ms) Q (F0 m (pc + 3) ls (.double r :: rest))) : W p l e R s m args below meth c H locs cells slots Q (F0 m pc ls st0) := by
  intro T hT X
  rcases hr T hT X with ⟨v, st₀, t, T', L, h0, X', hL, e1, e2, ⟨⟨r, u, hv, hp, hb⟩, hF⟩, st⟩ | ⟨q, st₀, t, T', L, E, ce, h0, X', hL, e1, e2, ⟨u, hp, hb, hF⟩, hce, hcv, hcl, st⟩
  · cases hv
    obtain ⟨k1, k2, k3⟩ := vx_keep h0 e1 hS hA hf hL hF
    obtain ⟨t2, a1, b1⟩ := kk r u t T'.heap (locs ++ L) e1.symm (by rw [← e2]; exact X'.warmed.alike) hp hb k1 k2 k3 T' rfl X'
    exact ⟨t2, st t2 a1, b1⟩
  · obtain ⟨k1, k2, k3⟩ := vx_keep h0 e1 hS hAX hf hL hF
    obtain ⟨t2, a1, b1⟩ := kx E ce q u t T'.heap (locs ++ L) e1.symm (by rw [← e2]; exact X'.warmed.alike) hp hb k1 k2 k3 (by rw [e1]; exact hce) hcv hcl T' rfl X'
    exact ⟨t2, st.trans a1, b1⟩
theorem vx_callv {S SX : Type} {post : S → Prop} {px : SX → Prop} {B : S → State → Prop} {BX : String → SX → State → Prop} {AX : Nat → Prop} (hr : vx_Run p l e R s m args below meth c H locs cells slots mc ms (F0 m pc ls st0) rest (va_Qv post B A1 a) (vx_X px BX AX) free) (hS : va_S A0 H0 H locs) (hA : ∀ q, q < H.size → A1 q → A0 q) (hf : ∀ q, free q → A0 q) (hAX : ∀ q, q < H.size → AX q → A0 q)
    (kx : ∀ (E : String) (ce : Cell) (q9 : Addr) (u : SX) (t : State) (H1 : Heap) (locs1 : List Loc), t.heap = H1 → s.vm.Alike t.vm → px u → BX E u t → H.size ≤ H1.size → (∀ q : Nat, q < H.size → ¬ AX q → H1[q]? = H[q]?) → va_S A0 H0 H1 locs1 → H1[q9]? = some ce → ce.vm = .none → s.vm.findClass E = some ce.cls → vx_W p l e R s m args below meth c H1 locs1 (cells + mc) (slots + ms) Q (F0 m pc ls rest) q9)
    (kk : ∀ (u : S) (t : State) (H1 : Heap) (locs1 : List Loc), t.heap = H1 → s.vm.Alike t.vm → post u → B u t → H.size ≤ H1.size → (∀ q : Nat, q < H.size → ¬ A1 q → H1[q]? = H[q]?) → va_S A0 H0 H1 locs1 → W p l e R s m args below meth c H1 locs1 (cells + mc) (slots + ms) Q (F0 m (pc + 3) ls (rest))) : W p l e R s m args below meth c H locs cells slots Q (F0 m pc ls st0) := by
  intro T hT X
  rcases hr T hT X with ⟨v, st₀, t, T', L, h0, X', hL, e1, e2, ⟨⟨u, hv, hp, hb⟩, hF⟩, st⟩ | ⟨q, st₀, t, T', L, E, ce, h0, X', hL, e1, e2, ⟨u, hp, hb, hF⟩, hce, hcv, hcl, st⟩
  · cases hv
    obtain ⟨k1, k2, k3⟩ := vx_keep h0 e1 hS hA hf hL hF
    obtain ⟨t2, a1, b1⟩ := kk u t T'.heap (locs ++ L) e1.symm (by rw [← e2]; exact X'.warmed.alike) hp hb k1 k2 k3 T' rfl X'
    exact ⟨t2, st t2 a1, b1⟩
  · obtain ⟨k1, k2, k3⟩ := vx_keep h0 e1 hS hAX hf hL hF
    obtain ⟨t2, a1, b1⟩ := kx E ce q u t T'.heap (locs ++ L) e1.symm (by rw [← e2]; exact X'.warmed.alike) hp hb k1 k2 k3 (by rw [e1]; exact hce) hcv hcl T' rfl X'
    exact ⟨t2, st.trans a1, b1⟩
/-- caught by the row x of this method's table; the rows ahead don't take it -/
theorem vx_catch {own name : String} {E : String} {ce : Cell} {q : Addr} (hown : s.vm.findClass own = some m.cls) (pre : List ExceptionTableEntry) (x : ExceptionTableEntry) (suf : List ExceptionTableEntry) (hsplit : c.exceptionTable.toList = pre ++ x :: suf)
    (hpass : ∀ z ∈ pre, covers z pc = false ∨ (z.catchType ≠ 0 ∧ ∃ nm : String, (Cond.classLink own z.catchType nm).before args s = true ∧ va_Nc E nm s)) (hx : covers x pc = true) (h0 : x.catchType ≠ 0)
    (hlink : (Cond.classLink own x.catchType name).before args s = true) (hcast : (Cond.castable E name).before args s = true) (hcell : H[q]? = some ce) (hv : ce.vm = .none) (hcl : s.vm.findClass E = some ce.cls)
    (kk : W p l e R s m args below meth c H locs cells slots Q (F0 m x.handlerPc ls [.ref q])) : vx_W p l e R s m args below meth c H locs cells slots Q (F0 m pc ls rest) q := by
  intro T hT X
  have hpl : e.platform.magicAccessors = ({} : Platform).magicAccessors := by rw [X.admits.platform]
  obtain ⟨c3, c4, hc3, hc4, hasg⟩ := Cond.castable_spec hcast
  cases Option.some.inj (hc3.symm.trans hcl)
  obtain ⟨c5, hc5, hcl5⟩ := Cond.classLink_spec hown hlink e.platform hpl
  cases Option.some.inj (hc4.symm.trans hc5)
  obtain ⟨vm', X', st⟩ := X.thenCaughtThrough q (g := F0 m pc ls rest) rfl (Steps.refl _) (by rw [hT]; exact hcell) (by rw [hv]; rfl) (by obtain ⟨k9, h9, -⟩ := Vm.findClass_spec hcl; exact ⟨k9, h9⟩) pre x suf hsplit
    (fun z hz => by
      rcases hpass z hz with h | ⟨hz0, nm, hl1, hn1⟩
      · exact Or.inl h
      · obtain ⟨c6, hc6, hcl6⟩ := Cond.classLink_spec hown hl1 e.platform hpl
        obtain ⟨a8, b8, h1, h2, h3⟩ := hn1
        cases Option.some.inj (h1.symm.trans hcl)
        cases Option.some.inj (h2.symm.trans hc6)
        exact Or.inr ⟨hz0, _, hcl6, h3⟩) hx (Or.inr ⟨h0, c4, hcl5, hasg⟩)
  obtain ⟨t, a1, b1⟩ := kk (T.setVm vm') hT X'
  exact ⟨t, st.trans a1, b1⟩
end Rows
section Ends
variable {p : Program} {l : Launch} {e : Env} {R : Room} {s : State} {m : MethodId} {args : Array Value} {below : List Frame} {meth : Method} {c : Code} {H : Heap} {locs : List Loc} {cells slots : Nat} {Q : State → Prop}
variable {mc ms : Nat} {free : Addr → Prop} {A0 A1 : Nat → Prop} {H0 : Heap} {a : Array Value} {ls : Array Slot} {st0 rest : List Value}
variable {Qc : Array Value → State → Outcome → State → Prop} {XC : String → State → State → Prop}
/-- what a body that may throw owes at its end -/
def vx_MQ (below : List Frame) (Qc : Array Value → State → Outcome → State → Prop) (XC : String → State → State → Prop) (a : Array Value) (s : State) (mc ms : Nat) (free : Addr → Prop) : State → Prop := fun t =>
  ∃ o, t.status = .running ∧ Ended t below o ∧ vx_Q Qc XC mc ms free a s o t
theorem vx_ret {g : JFrame} {mc ms : Nat} (k : W p l e R s m args below meth c H locs cells slots (MQ below Qc args s mc ms free) g) : W p l e R s m args below meth c H locs cells slots (vx_MQ below Qc XC args s mc ms free) g := by
  intro T hT X
  obtain ⟨t, a1, o, b1, b2, b3, b4⟩ := k T hT X
  exact ⟨t, a1, o, b1, b2, Or.inl ⟨b3, b4⟩⟩
/-- not caught here: it goes on to the caller -/
theorem vx_widen {g : JFrame} {q : Addr} {k n : Nat} (h1 : cells ≤ k) (h2 : slots ≤ n) (kk : vx_W p l e R s m args below meth c H locs k n Q g q) : vx_W p l e R s m args below meth c H locs cells slots Q g q := fun T hT X => kk T hT (stand_widen X h1 h2)
theorem vx_out {pc : Nat} {E : String} {ce : Cell} {q : Addr} {mc ms : Nat} (hout : ∀ x ∈ c.exceptionTable.toList, covers x pc = false) (hlocks : meth.locks = false) (hcell : H[q]? = some ce) (hv : ce.vm = .none) (hcl : s.vm.findClass E = some ce.cls)
    (hx : ∀ t : State, t.heap = H → s.vm.Alike t.vm → XC E s t) (hf : ∀ z ∈ locs, free z.base) (hc : cells ≤ mc) (hs : slots ≤ ms) :
    vx_W p l e R s m args below meth c H locs cells slots (vx_MQ below Qc XC args s mc ms free) (F0 m pc ls rest) q := by
  intro T hT X
  obtain ⟨st1, hrun, hend, hW, hsm⟩ := X.leaveThrown q (g := F0 m pc ls rest) rfl rfl rfl hout hlocks
  have hcell9 : (T.setFrames (.throwing q :: below)).heap[q]? = some ce := by
    show T.heap[q]? = some ce
    rw [hT]; exact hcell
  exact ⟨_, st1, .threw q, hrun, hend, Or.inr ⟨q, rfl, E, ce, locs, hx _ hT hW.alike, hcell9, hv, hcl, hW, hsm.mono hc hs, hf⟩⟩
theorem vx_frame {U : State} {k n : Nat} (h : s.sameButNew ({ U with vm := s.vm } : State) locs k n) : s.heap.size ≤ U.heap.size ∧ ∀ q : Nat, q < s.heap.size → (∀ z ∈ locs, z.base ≠ q) → U.heap[q]? = s.heap[q]? := by
  obtain ⟨-, h2, -, -, -, h6⟩ := h
  refine ⟨h2, fun q hq hz => ?_⟩
  obtain ⟨c9, e1, e2, e3, e4⟩ := h6 q _ (Array.getElem?_eq_getElem hq)
  have hs : c9.slots = (s.heap[q]).slots := Array.ext_getElem? fun i => e4 i fun hm => hz _ hm rfl
  have h9 : c9 = s.heap[q] := by
    rw [hs] at e2
    exact e2
  have e5 : U.heap[q]? = some c9 := e1
  rw [e5, h9, Array.getElem?_eq_getElem hq]
/-- the words of a throw but the four that speak of the heap -/
def vx_no (w : Cond) : Bool := decide (w ≠ .isRef (.static Bundle.tN "UNASSIGNED_STACK" Bundle.steD)) && decide (w ≠ .isRef (.static Bundle.tN "SUPPRESSED_SENTINEL" Bundle.listD)) && decide (w ≠ .laysStatic Bundle.tN "UNASSIGNED_STACK" Bundle.steD) && decide (w ≠ .laysStatic Bundle.tN "SUPPRESSED_SENTINEL" Bundle.listD)
def vx_at0 (own : String) (ic : Nat) (X : String) (names : List String) : List Cond := (Bundle.ownAtoms0 own ic X names).filter vx_no
def vx_atS (own : String) (ic : Nat) (X : String) (names : List String) : List Cond := (Bundle.ownAtoms own ic X names).filter vx_no
/-- a word that the tables alone decide, or a good one -/
def vx_ot (w : Cond) : Bool := w.onTables || goodWord w
theorem vx_ot_at {args a' : Array Value} {s U : State} {w : Cond} (hW : s.WarmedH U.vm) (hvm : s.vm = U.vm) (hg : vx_ot w = true) (h : w.before args s = true) : w.before a' U = true := by
  simp only [vx_ot, Bool.or_eq_true] at hg
  rcases hg with hg | hg
  · exact va_tabs hg hvm h
  · exact word_at hW (good_of_word hg) h
/-- a list's words: the good ones out of the method's own list, the others by premises of their own -/
theorem vx_hat {args : Array Value} {s : State} {L B : List Cond} (h1 : ∀ w ∈ L.filter goodWord, w.before args s = true) (h2 : ∀ w ∈ L.filter (fun w => !goodWord w), w ∈ B) (h3 : ∀ w ∈ B, w.before args s = true) : ∀ w ∈ L, w.before args s = true := by
  intro w hw
  by_cases g : goodWord w = true
  · exact h1 w (List.mem_filter.mpr ⟨hw, g⟩)
  · refine h3 w (h2 w (List.mem_filter.mpr ⟨hw, ?_⟩))
    show (!goodWord w) = true
    cases hgw : goodWord w
    · rfl
    · exact absurd hgw g
theorem vx_c {args : Array Value} {s : State} {w : Cond} {B : List Cond} (h : w.before args s = true) (t : ∀ w ∈ B, w.before args s = true) : ∀ w' ∈ w :: B, w'.before args s = true := fun w' h' => (List.mem_cons.mp h').elim (fun e => by rw [e]; exact h) (t w')
theorem vx_n {args : Array Value} {s : State} : ∀ w ∈ ([] : List Cond), w.before args s = true := fun _ h => nomatch h
theorem vx_own {args : Array Value} {s : State} {L : List Cond} (h1 : ∀ w ∈ L.filter vx_no, w.before args s = true)
    (hU : (Cond.isRef (.static Bundle.tN "UNASSIGNED_STACK" Bundle.steD)).before args s = true) (hN : (Cond.isRef (.static Bundle.tN "SUPPRESSED_SENTINEL" Bundle.listD)).before args s = true)
    (lU : (Cond.laysStatic Bundle.tN "UNASSIGNED_STACK" Bundle.steD).before args s = true) (lN : (Cond.laysStatic Bundle.tN "SUPPRESSED_SENTINEL" Bundle.listD).before args s = true) : ∀ w ∈ L, w.before args s = true := by
  intro w hw
  by_cases e1 : w = .isRef (.static Bundle.tN "UNASSIGNED_STACK" Bundle.steD)
  · rw [e1]; exact hU
  · by_cases e2 : w = .isRef (.static Bundle.tN "SUPPRESSED_SENTINEL" Bundle.listD)
    · rw [e2]; exact hN
    · by_cases e3 : w = .laysStatic Bundle.tN "UNASSIGNED_STACK" Bundle.steD
      · rw [e3]; exact lU
      · by_cases e4 : w = .laysStatic Bundle.tN "SUPPRESSED_SENTINEL" Bundle.listD
        · rw [e4]; exact lN
        · exact h1 w (List.mem_filter.mpr ⟨hw, by unfold vx_no; rw [decide_eq_true e1, decide_eq_true e2, decide_eq_true e3, decide_eq_true e4]; rfl⟩)
/-- where a static field lies, its class's statics cell in H -/
def vx_L (C n d : String) (A : Nat → Prop) (U : State) (H : Heap) : Prop := ∃ (c : ClassId) (k : Class) (i : Nat) (f : Field) (a : Nat) (cell : Cell), U.vm.findClass C = some c ∧ U.fieldFound? C n d = some (c, k, i, f) ∧ f.isStatic = true ∧ k.statics = some a ∧ H[a]? = some cell ∧ cell.vm.isStatics = true ∧ cell.cls = c ∧ f.slot < cell.slots.size ∧ k.staticTypes[f.slot]? = some f.type ∧ ¬ A a
theorem vx_L.moved {C n d : String} {A : Nat → Prop} {u U : State} {H : Heap} (hvm : u.vm.Alike U.vm) (h : vx_L C n d A u H) : vx_L C n d A U H := by
  obtain ⟨c, k, i, f, a, cell, h1, h2, h3, h4, h5, h6, h7, h8, h9, h10⟩ := h
  obtain ⟨k', hi', he⟩ := State.fieldFound?_setVm hvm h2
  exact ⟨c, k', i, f, a, cell, by rw [hvm.findClass]; exact h1, hi', h3, by rw [he]; exact h4, h5, h6, h7, h8, by rw [he]; exact h9, h10⟩
theorem vx_L.kept {C n d : String} {A : Nat → Prop} {U : State} {H H1 : Heap} (h : vx_L C n d A U H) (hq : ∀ a : Nat, a < H.size → ¬ A a → H1[a]? = H[a]?) : vx_L C n d A U H1 := by
  obtain ⟨c, k, i, f, a, cell, h1, h2, h3, h4, h5, h6, h7, h8, h9, h10⟩ := h
  exact ⟨c, k, i, f, a, cell, h1, h2, h3, h4, by rw [hq a (Array.getElem?_eq_some_iff.mp h5).1 h10]; exact h5, h6, h7, h8, h9, h10⟩
theorem vx_L.narrow {C n d : String} {A B : Nat → Prop} {U : State} {H : Heap} (h : vx_L C n d A U H) (hAB : ∀ q, B q → A q) : vx_L C n d B U H := by
  obtain ⟨c, k, i, f, a, cell, h1, h2, h3, h4, h5, h6, h7, h8, h9, h10⟩ := h
  exact ⟨c, k, i, f, a, cell, h1, h2, h3, h4, h5, h6, h7, h8, h9, fun z => h10 (hAB _ z)⟩
theorem vx_L.word {C n d : String} {A : Nat → Prop} {s : State} {args : Array Value} (h : vx_L C n d A s s.heap) : (Cond.laysStatic C n d).before args s = true := by
  obtain ⟨c, k, i, f, a, cell, h1, h2, h3, h4, h5, h6, h7, h8, h9, -⟩ := h
  show (Cond.laysStatic C n d).holds args s none s [] = true
  exact Cond.laysStatic_of h1 h2 h3 h4 h5 h6 h7 h8 h9
/-- .. and what it holds: null or some reference -/
def vx_Zq (C n d : String) (A : Nat → Prop) (U : State) (H : Heap) : Prop := va_Zq C n d A U H ∧ vx_L C n d A U H
theorem vx_Zq.moved {C n d : String} {A : Nat → Prop} {u U : State} {H : Heap} (hvm : u.vm.Alike U.vm) (h : vx_Zq C n d A u H) : vx_Zq C n d A U H := ⟨va_Zq.moved hvm h.1, vx_L.moved hvm h.2⟩
theorem vx_Zq.kept {C n d : String} {A : Nat → Prop} {U : State} {H H1 : Heap} (h : vx_Zq C n d A U H) (hq : ∀ a : Nat, a < H.size → ¬ A a → H1[a]? = H[a]?) : vx_Zq C n d A U H1 := ⟨va_Zq.kept h.1 hq, vx_L.kept h.2 hq⟩
theorem vx_Zq.narrow {C n d : String} {A B : Nat → Prop} {U : State} {H : Heap} (h : vx_Zq C n d A U H) (hAB : ∀ q, B q → A q) : vx_Zq C n d B U H := ⟨va_Zq.narrow h.1 hAB, vx_L.narrow h.2 hAB⟩
theorem vx_Zqof {args : Array Value} {s : State} {C n d : String} {A : Nat → Prop} (hl : (Cond.laysStatic C n d).before args s = true) (hini : (Cond.initialized C).before args s = true) (h : (Cond.isRef (.static C n d)).before args s = true) (hA : ∀ a : Nat, a < s.heap.size → ¬ A a) : vx_Zq C n d A s s.heap := by
  refine ⟨va_Zqof hl hini h hA, ?_⟩
  obtain ⟨c, k, i, f, a, cell, h1, h2, h3, h4, h5, h6, h7, h8, h9⟩ := Cond.laysStatic_spec hl
  exact ⟨c, k, i, f, a, cell, h1, h2, h3, h4, h5, h6, h7, h8, h9, hA a (Array.getElem?_eq_some_iff.mp h5).1⟩
theorem vx_isRef {C n d : String} {v : Value} {A : Nat → Prop} {s : State} {args : Array Value} (h : va_Z C n d v A s s.heap) (hv : v.isRef = true) : (Cond.isRef (.static C n d)).before args s = true := by
  obtain ⟨cf, kf, fi, f, a, cell, h1, h2, h3, h4, h5, h6, h7, -⟩ := h
  have he : (Term.static C n d).eval args s none [] s = some v := by
    simp [Term.eval, State.fieldNamed?, h1, h2, h4, h5, h6, h7]
  simp only [Cond.before, Cond.holds, Cond.value, he]
  cases v <;> simp_all [Value.isRef]
theorem vx_isRefq {C n d : String} {A : Nat → Prop} {s : State} {args : Array Value} (h : va_Zq C n d A s s.heap) : (Cond.isRef (.static C n d)).before args s = true := by
  rcases h with h | ⟨t, h⟩
  · exact vx_isRef h rfl
  · exact vx_isRef h rfl
/-- the same frame, seen from here: as if the method were called anew in this heap -/
theorem vx_rebase {T : State} (X : Stand p l e R s m args below meth c T locs cells slots) {R' : Room} (hf : R'.frames ≤ R.frames) (hl : R'.locals ≤ R.locals) (hc : cells + R'.cells ≤ R.cells) (hs : slots + R'.slots ≤ R.slots) :
    Stand p l e R' ((T.setVm s.vm).setFrames (.invoking m args :: below)) m args below meth c T [] 0 0 := by
  have htop : (T.setVm s.vm).topJava?.isSome := X.here.top
  have hF : ((T.setVm s.vm).setFrames (.invoking m args :: below)).frames = .invoking m args :: below := State.frames_setFrames _ (State.cur_lt_of_top htop)
  obtain ⟨g₀, hg0⟩ := Option.isSome_iff_exists.mp htop
  obtain ⟨r, hr⟩ := State.topJava?_eq_some.mp hg0
  have hl9 : e.platform.stackLimits (T.setVm s.vm).me = e.platform.stackLimits s.me := X.limits
  have hb9 : (T.setVm s.vm).me.stackBytes = s.me.stackBytes := X.bytes
  refine ⟨X.admits, X.cas, X.clock, hF, ?_, X.hears, X.method, X.code, X.here, X.tail, X.warmed, ?_, ?_, ?_⟩
  · have h := X.room
    have hU : ((T.setVm s.vm).setFrames (.invoking m args :: below)).localsInUse = s.localsInUse := by
      rw [State.localsInUse_invoking hF (meth := meth) (c := c) X.method X.code, State.localsInUse_invoking X.frames X.method X.code]
    simp only [State.hasRoom, Bool.and_eq_true, decide_eq_true_eq] at h ⊢
    obtain ⟨⟨⟨⟨h1, h2, h3, h4, h5, h6⟩, h7⟩, h8⟩, h9⟩ := h
    rw [X.frames, List.length_cons] at h2 h3
    have q1 := X.heapSize
    have q2 := X.used
    simp only [hF, hU, List.length_cons, State.stackLimits_setFrames, State.stackBytes_setFrames, hl9, hb9]
    refine ⟨⟨⟨⟨by omega, by omega, by omega, by omega, by omega, h6⟩, ?_⟩, ?_⟩, X.book⟩
    · show T.heap.size + R'.cells ≤ e.platform.maxCells
      omega
    · show T.slotsUsed + R'.slots ≤ e.platform.maxSlots
      omega
  · rw [State.stackLimits_setFrames]; rfl
  · rw [State.stackBytes_setFrames]; rfl
  · refine ⟨?_, Nat.le_refl _, Nat.le_refl _, ?_, ?_, fun a c9 h9 => ⟨c9, h9, rfl, rfl, fun _ _ => rfl⟩⟩
    · obtain ⟨t, ht, -⟩ := State.frames_cons hr
      show T.setVm s.vm = { ((T.setVm s.vm).setFrames (.invoking m args :: below)).setFrames (T.setVm s.vm).frames with heap := T.heap, slotsUsed := T.slotsUsed }
      rw [State.setFrames_setFrames, State.setFrames_self ht]
      rfl
    · show T.slotsUsed = T.slotsUsed + ((T.heap.toList.drop T.heap.size).map (·.slots.size)).sum
      rw [List.drop_eq_nil_of_le (Nat.le_of_eq Array.length_toList)]
      rfl
    · show ((T.heap.toList.drop T.heap.size).map (·.slots.size)).sum ≤ 0
      rw [List.drop_eq_nil_of_le (Nat.le_of_eq Array.length_toList)]
      exact Nat.le_refl _
/-- 'throw new E()': new; dup; invokespecial; athrow -/
theorem vx_throw0 {cc : ByteArray} {pc : Nat} (hexec : p.tables.exec = Jvm.exec) (hb : c.code = cc) (hl : l.stackTraces = false) {own cls : String} {names : List String} {ik ic mc ms : Nat} {A : Nat → Prop}
    (hown : s.vm.findClass own = some m.cls) (hcls : Bundle.fit cls = true) (hnames : ∀ n ∈ names, Bundle.fit n = true)
    (hk : (Cond.classLink own ik cls).before args s = true) (hini : (Cond.initialized cls).before args s = true) (hat : ∀ w ∈ vx_at0 own ic cls names, w.before args s = true)
    (hgood : ∀ w ∈ Cond.classLink own ik cls :: Cond.initialized cls :: vx_at0 own ic cls names, vx_ot w = true)
    (hU : vx_Zq Bundle.tN "UNASSIGNED_STACK" Bundle.steD A s s.heap) (hN : vx_Zq Bundle.tN "SUPPRESSED_SENTINEL" Bundle.listD A s s.heap) (hS : va_S A s.heap H locs) (hsize : ls.size = c.maxLocals)
    (d0 : decode cc pc = .ok (.new ik, 3)) (d3 : decode cc (pc + 3) = .ok (.dup, 1)) (d4 : decode cc (pc + 4) = .ok (.invokespecial ic, 3)) (d7 : decode cc (pc + 7) = .ok (.athrow, 1))
    (hout : ∀ x ∈ c.exceptionTable.toList, covers x (pc + 7) = false)
    (hRframes : names.length + 3 < R.frames) (hRlocals : (rest.map fun v => v.category).sum + (13 * (names.length + 1) + 42) ≤ R.locals) (hRcells : cells + 1 ≤ R.cells) (hRslots : slots + 6 ≤ R.slots) (hlocks : meth.locks = false)
    (hx : ∀ t : State, s.vm.Alike t.vm → H.size ≤ t.heap.size → (∀ q : Nat, q < H.size → t.heap[q]? = H[q]?) → XC cls s t)
    (hf : ∀ z ∈ locs, free z.base) (hc : cells + 1 ≤ mc) (hs : slots + 6 ≤ ms) :
    W p l e R s m args below meth c H locs cells slots (vx_MQ below Qc XC args s mc ms free) (F0 m pc ls rest) := by
  intro T hT X
  have htr : e.platform.stackTraces = false := (show e.platform.stackTraces = l.stackTraces by rw [X.admits.platform]).trans hl
  have Y := vx_rebase X (R' := { frames := R.frames, locals := R.locals, cells := 1, slots := 6 }) (Nat.le_refl _) (Nat.le_refl _) hRcells hRslots
  obtain ⟨s', hA⟩ : ∃ z, z = (T.setVm s.vm).setFrames (.invoking m args :: below) := ⟨_, rfl⟩
  rw [← hA] at Y
  have hvm : s'.vm = s.vm := by rw [hA]; rfl
  have hhp : s'.heap = H := by rw [hA]; exact hT
  have hW0 : s.WarmedH s'.vm := by rw [hvm]; exact State.WarmedH.refl s
  have hat' : ∀ w ∈ vx_at0 own ic cls names, w.before args s' = true := fun w hw => vx_ot_at hW0 hvm.symm (hgood w (List.mem_cons_of_mem _ (List.mem_cons_of_mem _ hw))) (hat w hw)
  have hk' : (Cond.classLink own ik cls).before args s' = true := vx_ot_at hW0 hvm.symm (hgood _ List.mem_cons_self) hk
  have hini' : (Cond.initialized cls).before args s' = true := vx_ot_at hW0 hvm.symm (hgood _ (List.mem_cons_of_mem _ List.mem_cons_self)) hini
  have hU' : vx_Zq Bundle.tN "UNASSIGNED_STACK" Bundle.steD A s' s'.heap := by rw [hhp]; exact vx_Zq.moved hW0.alike (hU.kept hS.2.1)
  have hN' : vx_Zq Bundle.tN "SUPPRESSED_SENTINEL" Bundle.listD A s' s'.heap := by rw [hhp]; exact vx_Zq.moved hW0.alike (hN.kept hS.2.1)
  have h : ∀ w ∈ Bundle.ownAtoms0 own ic cls names, w.before args s' = true := vx_own hat' (vx_isRefq hU'.1) (vx_isRefq hN'.1) hU'.2.word hN'.2.word
  have hown' : s'.vm.findClass own = some m.cls := by rw [hvm]; exact hown
  have hins : (Cond.instantiable cls 6).before args s' = true := h _ (by simp [Bundle.ownAtoms0])
  obtain ⟨vm₁, cX, kX, hfX, hkX, -, -, X₁, st1⟩ := Y.newCold hexec (own := own) (C := cls) (index := ik) (n := 6) hown' hk' hins hini'
    (g := F0 m pc ls rest) rfl (by rw [hb]; exact d0) (Nat.le_refl _) (Nat.le_refl _)
  generalize hT1 : (T.setVm vm₁).pushCell { cls := cX, slots := kX.instanceTypes.map defaultValue, vm := .none } = T1 at X₁ st1
  have hcat : (Value.ref T.heap.size).category = 1 := rfl
  have hcellA : T1.heap[T.heap.size]? = some (freshCell cX kX) := by rw [← hT1]; exact State.heap_pushCell_size _ _
  have d3' : decode c.code (pc + 3) = .ok (.dup, 1) := by rw [hb]; exact d3
  obtain ⟨U, hsteps, hrun, hend, hW, hsame, ce, hce, hO⟩ := X₁.ctorThrow0 hexec htr (own := own) (cls := cls) (names := names) (ic := ic) hown' hcls hnames h (fun x hx => nomatch hx) hfX hkX hcellA (by rw [hhp, hT]; exact Nat.le_refl _)
    (g := { method := m, pc := pc + 4, locals := ls, stack := .ref T.heap.size :: .ref T.heap.size :: rest, locked := none }) rfl hsize rfl rfl (rest := rest) rfl
    (by rw [hb]; exact d4) (by rw [hb]; exact d7) hout hRframes (by simp only [List.map_cons, List.sum_cons, hcat]; omega) hlocks
  obtain ⟨f1, f2⟩ := vx_frame hsame
  rw [hhp] at f1 f2
  have hWs : s.WarmedH U.vm := State.WarmedH.trans hW0 hW
  have hcl : s.vm.findClass cls = some ce.cls := by
    have h9 := hO.cls
    rw [hvm] at h9
    exact h9
  have hall : s.sameButNew ({ U with vm := s.vm } : State) locs mc ms := by
    subst hA
    obtain ⟨e1, e2⟩ := hsame
    rw [State.setFrames_setFrames] at e1
    have h2 : (T.setVm s.vm).sameButNew ({ U with vm := s.vm } : State) [] (0 + 1) (0 + 6) := ⟨e1, e2⟩
    have h3 := X.same.trans h2
    rw [List.append_nil] at h3
    exact h3.mono hc hs
  refine ⟨U, ?_, .threw T.heap.size, hrun, hend, Or.inr ⟨T.heap.size, rfl, cls, ce, locs, hx U hWs.alike f1 (fun q hq => f2 q hq (fun z hz => nomatch hz)), hce, hO.vm, hcl, hWs, hall, hf⟩⟩
  refine st1 _ ?_
  show Steps p.tables e below (T1.setTop { method := m, pc := pc + 3, locals := ls, stack := .ref T.heap.size :: rest, locked := none }) _
  jvm_step X₁.here [X₁.here.top, hexec, d3', Value.category]
  exact hsteps
/-- 'throw new E("text")': new; dup; ldc; invokespecial; athrow -/
theorem vx_throwS {cc : ByteArray} {pc : Nat} (hexec : p.tables.exec = Jvm.exec) (hb : c.code = cc) (hl : l.stackTraces = false) {own cls text : String} {names : List String} {ik is ic mc ms sa : Nat} {A : Nat → Prop}
    (hown : s.vm.findClass own = some m.cls) (hcls : Bundle.fit cls = true) (hnames : ∀ n ∈ names, Bundle.fit n = true)
    (hk : (Cond.classLink own ik cls).before args s = true) (hini : (Cond.initialized cls).before args s = true) (hstr : vk_R own is text sa s) (hat : ∀ w ∈ vx_atS own ic cls names, w.before args s = true)
    (hgood : ∀ w ∈ Cond.classLink own ik cls :: Cond.initialized cls :: vx_atS own ic cls names, vx_ot w = true)
    (hU : vx_Zq Bundle.tN "UNASSIGNED_STACK" Bundle.steD A s s.heap) (hN : vx_Zq Bundle.tN "SUPPRESSED_SENTINEL" Bundle.listD A s s.heap) (hS : va_S A s.heap H locs) (hsize : ls.size = c.maxLocals)
    (d0 : decode cc pc = .ok (.new ik, 3)) (d3 : decode cc (pc + 3) = .ok (.dup, 1)) (d4 : decode cc (pc + 4) = .ok (.ldc is, 2)) (d6 : decode cc (pc + 6) = .ok (.invokespecial ic, 3)) (d9 : decode cc (pc + 9) = .ok (.athrow, 1))
    (hout : ∀ x ∈ c.exceptionTable.toList, covers x (pc + 9) = false)
    (hRframes : names.length + 3 < R.frames) (hRlocals : (rest.map fun v => v.category).sum + (13 * (names.length + 1) + 43) ≤ R.locals) (hRcells : cells + 1 ≤ R.cells) (hRslots : slots + 6 ≤ R.slots) (hlocks : meth.locks = false)
    (hx : ∀ t : State, s.vm.Alike t.vm → H.size ≤ t.heap.size → (∀ q : Nat, q < H.size → t.heap[q]? = H[q]?) → XC cls s t)
    (hf : ∀ z ∈ locs, free z.base) (hc : cells + 1 ≤ mc) (hs : slots + 6 ≤ ms) :
    W p l e R s m args below meth c H locs cells slots (vx_MQ below Qc XC args s mc ms free) (F0 m pc ls rest) := by
  intro T hT X
  have htr : e.platform.stackTraces = false := (show e.platform.stackTraces = l.stackTraces by rw [X.admits.platform]).trans hl
  have Y := vx_rebase X (R' := { frames := R.frames, locals := R.locals, cells := 1, slots := 6 }) (Nat.le_refl _) (Nat.le_refl _) hRcells hRslots
  obtain ⟨s', hA⟩ : ∃ z, z = (T.setVm s.vm).setFrames (.invoking m args :: below) := ⟨_, rfl⟩
  rw [← hA] at Y
  have hvm : s'.vm = s.vm := by rw [hA]; rfl
  have hhp : s'.heap = H := by rw [hA]; exact hT
  have hW0 : s.WarmedH s'.vm := by rw [hvm]; exact State.WarmedH.refl s
  have hat' : ∀ w ∈ vx_atS own ic cls names, w.before args s' = true := fun w hw => vx_ot_at hW0 hvm.symm (hgood w (List.mem_cons_of_mem _ (List.mem_cons_of_mem _ hw))) (hat w hw)
  have hk' : (Cond.classLink own ik cls).before args s' = true := vx_ot_at hW0 hvm.symm (hgood _ List.mem_cons_self) hk
  have hini' : (Cond.initialized cls).before args s' = true := vx_ot_at hW0 hvm.symm (hgood _ (List.mem_cons_of_mem _ List.mem_cons_self)) hini
  have hU' : vx_Zq Bundle.tN "UNASSIGNED_STACK" Bundle.steD A s' s'.heap := by rw [hhp]; exact vx_Zq.moved hW0.alike (hU.kept hS.2.1)
  have hN' : vx_Zq Bundle.tN "SUPPRESSED_SENTINEL" Bundle.listD A s' s'.heap := by rw [hhp]; exact vx_Zq.moved hW0.alike (hN.kept hS.2.1)
  have h : ∀ w ∈ Bundle.ownAtoms own ic cls names, w.before args s' = true := vx_own hat' (vx_isRefq hU'.1) (vx_isRefq hN'.1) hU'.2.word hN'.2.word
  have hown' : s'.vm.findClass own = some m.cls := by rw [hvm]; exact hown
  have hins : (Cond.instantiable cls 6).before args s' = true := h _ (by simp [Bundle.ownAtoms])
  obtain ⟨vm₁, cX, kX, hfX, hkX, -, -, X₁, st1⟩ := Y.newCold hexec (own := own) (C := cls) (index := ik) (n := 6) hown' hk' hins hini'
    (g := F0 m pc ls rest) rfl (by rw [hb]; exact d0) (Nat.le_refl _) (Nat.le_refl _)
  generalize hT1 : (T.setVm vm₁).pushCell { cls := cX, slots := kX.instanceTypes.map defaultValue, vm := .none } = T1 at X₁ st1
  have hcat : (Value.ref T.heap.size).category = 1 := rfl
  have hcellA : T1.heap[T.heap.size]? = some (freshCell cX kX) := by rw [← hT1]; exact State.heap_pushCell_size _ _
  have d3' : decode c.code (pc + 3) = .ok (.dup, 1) := by rw [hb]; exact d3
  have d4' : decode c.code (pc + 4) = .ok (.ldc is, 2) := by rw [hb]; exact d4
  have hstr' : vk_R own is text sa s' := vk_R.warm hW0 hstr
  obtain ⟨U, hsteps, hrun, hend, hW, hsame, ce, hce, hO⟩ := X₁.ctorThrowS hexec htr (own := own) (cls := cls) (names := names) (ic := ic) hown' hcls hnames h (fun x hx => nomatch hx) hfX hkX hcellA (by rw [hhp, hT]; exact Nat.le_refl _) (msg := .ref sa) rfl
    (g := { method := m, pc := pc + 6, locals := ls, stack := .ref sa :: .ref T.heap.size :: .ref T.heap.size :: rest, locked := none }) rfl hsize rfl rfl (rest := rest) rfl
    (by rw [hb]; exact d6) (by rw [hb]; exact d9) hout hRframes (by simp only [List.map_cons, List.sum_cons, hcat]; omega) hlocks
  obtain ⟨f1, f2⟩ := vx_frame hsame
  rw [hhp] at f1 f2
  have hWs : s.WarmedH U.vm := State.WarmedH.trans hW0 hW
  have hcl : s.vm.findClass cls = some ce.cls := by
    have h9 := hO.cls
    rw [hvm] at h9
    exact h9
  have hall : s.sameButNew ({ U with vm := s.vm } : State) locs mc ms := by
    subst hA
    obtain ⟨e1, e2⟩ := hsame
    rw [State.setFrames_setFrames] at e1
    have h2 : (T.setVm s.vm).sameButNew ({ U with vm := s.vm } : State) [] (0 + 1) (0 + 6) := ⟨e1, e2⟩
    have h3 := X.same.trans h2
    rw [List.append_nil] at h3
    exact h3.mono hc hs
  refine ⟨U, ?_, .threw T.heap.size, hrun, hend, Or.inr ⟨T.heap.size, rfl, cls, ce, locs, hx U hWs.alike f1 (fun q hq => f2 q hq (fun z hz => nomatch hz)), hce, hO.vm, hcl, hWs, hall, hf⟩⟩
  refine st1 _ ?_
  show Steps p.tables e below (T1.setTop { method := m, pc := pc + 3, locals := ls, stack := .ref T.heap.size :: rest, locked := none }) _
  jvm_step X₁.here [X₁.here.top, hexec, d3', Value.category]
  exact X₁.ldcString hexec (own := own) (text := text) (index := is) (a := sa) hown' hstr'.1 hstr'.2
    (g := { method := m, pc := pc + 4, locals := ls, stack := .ref T.heap.size :: .ref T.heap.size :: rest, locked := none }) rfl d4' _ hsteps
/-- 'throw new E("text")', the text by a wide index -/
theorem vx_throwSW {cc : ByteArray} {pc : Nat} (hexec : p.tables.exec = Jvm.exec) (hb : c.code = cc) (hl : l.stackTraces = false) {own cls text : String} {names : List String} {ik is ic mc ms sa : Nat} {A : Nat → Prop}
    (hown : s.vm.findClass own = some m.cls) (hcls : Bundle.fit cls = true) (hnames : ∀ n ∈ names, Bundle.fit n = true)
    (hk : (Cond.classLink own ik cls).before args s = true) (hini : (Cond.initialized cls).before args s = true) (hstr : vk_R own is text sa s) (hat : ∀ w ∈ vx_atS own ic cls names, w.before args s = true)
    (hgood : ∀ w ∈ Cond.classLink own ik cls :: Cond.initialized cls :: vx_atS own ic cls names, vx_ot w = true)
    (hU : vx_Zq Bundle.tN "UNASSIGNED_STACK" Bundle.steD A s s.heap) (hN : vx_Zq Bundle.tN "SUPPRESSED_SENTINEL" Bundle.listD A s s.heap) (hS : va_S A s.heap H locs) (hsize : ls.size = c.maxLocals)
    (d0 : decode cc pc = .ok (.new ik, 3)) (d3 : decode cc (pc + 3) = .ok (.dup, 1)) (d4 : decode cc (pc + 4) = .ok (.ldc_w is, 3)) (d7 : decode cc (pc + 7) = .ok (.invokespecial ic, 3)) (d10 : decode cc (pc + 10) = .ok (.athrow, 1))
    (hout : ∀ x ∈ c.exceptionTable.toList, covers x (pc + 10) = false)
    (hRframes : names.length + 3 < R.frames) (hRlocals : (rest.map fun v => v.category).sum + (13 * (names.length + 1) + 43) ≤ R.locals) (hRcells : cells + 1 ≤ R.cells) (hRslots : slots + 6 ≤ R.slots) (hlocks : meth.locks = false)
    (hx : ∀ t : State, s.vm.Alike t.vm → H.size ≤ t.heap.size → (∀ q : Nat, q < H.size → t.heap[q]? = H[q]?) → XC cls s t)
    (hf : ∀ z ∈ locs, free z.base) (hc : cells + 1 ≤ mc) (hs : slots + 6 ≤ ms) :
    W p l e R s m args below meth c H locs cells slots (vx_MQ below Qc XC args s mc ms free) (F0 m pc ls rest) := by
  intro T hT X
  have htr : e.platform.stackTraces = false := (show e.platform.stackTraces = l.stackTraces by rw [X.admits.platform]).trans hl
  have Y := vx_rebase X (R' := { frames := R.frames, locals := R.locals, cells := 1, slots := 6 }) (Nat.le_refl _) (Nat.le_refl _) hRcells hRslots
  obtain ⟨s', hA⟩ : ∃ z, z = (T.setVm s.vm).setFrames (.invoking m args :: below) := ⟨_, rfl⟩
  rw [← hA] at Y
  have hvm : s'.vm = s.vm := by rw [hA]; rfl
  have hhp : s'.heap = H := by rw [hA]; exact hT
  have hW0 : s.WarmedH s'.vm := by rw [hvm]; exact State.WarmedH.refl s
  have hat' : ∀ w ∈ vx_atS own ic cls names, w.before args s' = true := fun w hw => vx_ot_at hW0 hvm.symm (hgood w (List.mem_cons_of_mem _ (List.mem_cons_of_mem _ hw))) (hat w hw)
  have hk' : (Cond.classLink own ik cls).before args s' = true := vx_ot_at hW0 hvm.symm (hgood _ List.mem_cons_self) hk
  have hini' : (Cond.initialized cls).before args s' = true := vx_ot_at hW0 hvm.symm (hgood _ (List.mem_cons_of_mem _ List.mem_cons_self)) hini
  have hU' : vx_Zq Bundle.tN "UNASSIGNED_STACK" Bundle.steD A s' s'.heap := by rw [hhp]; exact vx_Zq.moved hW0.alike (hU.kept hS.2.1)
  have hN' : vx_Zq Bundle.tN "SUPPRESSED_SENTINEL" Bundle.listD A s' s'.heap := by rw [hhp]; exact vx_Zq.moved hW0.alike (hN.kept hS.2.1)
  have h : ∀ w ∈ Bundle.ownAtoms own ic cls names, w.before args s' = true := vx_own hat' (vx_isRefq hU'.1) (vx_isRefq hN'.1) hU'.2.word hN'.2.word
  have hown' : s'.vm.findClass own = some m.cls := by rw [hvm]; exact hown
  have hins : (Cond.instantiable cls 6).before args s' = true := h _ (by simp [Bundle.ownAtoms])
  obtain ⟨vm₁, cX, kX, hfX, hkX, -, -, X₁, st1⟩ := Y.newCold hexec (own := own) (C := cls) (index := ik) (n := 6) hown' hk' hins hini'
    (g := F0 m pc ls rest) rfl (by rw [hb]; exact d0) (Nat.le_refl _) (Nat.le_refl _)
  generalize hT1 : (T.setVm vm₁).pushCell { cls := cX, slots := kX.instanceTypes.map defaultValue, vm := .none } = T1 at X₁ st1
  have hcat : (Value.ref T.heap.size).category = 1 := rfl
  have hcellA : T1.heap[T.heap.size]? = some (freshCell cX kX) := by rw [← hT1]; exact State.heap_pushCell_size _ _
  have d3' : decode c.code (pc + 3) = .ok (.dup, 1) := by rw [hb]; exact d3
  have d4' : decode c.code (pc + 4) = .ok (.ldc_w is, 3) := by rw [hb]; exact d4
  have hstr' : vk_R own is text sa s' := vk_R.warm hW0 hstr
  obtain ⟨U, hsteps, hrun, hend, hW, hsame, ce, hce, hO⟩ := X₁.ctorThrowS hexec htr (own := own) (cls := cls) (names := names) (ic := ic) hown' hcls hnames h (fun x hx => nomatch hx) hfX hkX hcellA (by rw [hhp, hT]; exact Nat.le_refl _) (msg := .ref sa) rfl
    (g := { method := m, pc := pc + 7, locals := ls, stack := .ref sa :: .ref T.heap.size :: .ref T.heap.size :: rest, locked := none }) rfl hsize rfl rfl (rest := rest) rfl
    (by rw [hb]; exact d7) (by rw [hb]; exact d10) hout hRframes (by simp only [List.map_cons, List.sum_cons, hcat]; omega) hlocks
  obtain ⟨f1, f2⟩ := vx_frame hsame
  rw [hhp] at f1 f2
  have hWs : s.WarmedH U.vm := State.WarmedH.trans hW0 hW
  have hcl : s.vm.findClass cls = some ce.cls := by
    have h9 := hO.cls
    rw [hvm] at h9
    exact h9
  have hall : s.sameButNew ({ U with vm := s.vm } : State) locs mc ms := by
    subst hA
    obtain ⟨e1, e2⟩ := hsame
    rw [State.setFrames_setFrames] at e1
    have h2 : (T.setVm s.vm).sameButNew ({ U with vm := s.vm } : State) [] (0 + 1) (0 + 6) := ⟨e1, e2⟩
    have h3 := X.same.trans h2
    rw [List.append_nil] at h3
    exact h3.mono hc hs
  refine ⟨U, ?_, .threw T.heap.size, hrun, hend, Or.inr ⟨T.heap.size, rfl, cls, ce, locs, hx U hWs.alike f1 (fun q hq => f2 q hq (fun z hz => nomatch hz)), hce, hO.vm, hcl, hWs, hall, hf⟩⟩
  refine st1 _ ?_
  show Steps p.tables e below (T1.setTop { method := m, pc := pc + 3, locals := ls, stack := .ref T.heap.size :: rest, locked := none }) _
  jvm_step X₁.here [X₁.here.top, hexec, d3', Value.category]
  exact X₁.ldcStringW hexec (own := own) (text := text) (index := is) (a := sa) hown' hstr'.1 hstr'.2
    (g := { method := m, pc := pc + 4, locals := ls, stack := .ref T.heap.size :: .ref T.heap.size :: rest, locked := none }) rfl d4' _ hsteps
end Ends
section Bodies
variable {l : Launch}
theorem vx_ofW {y : MethodName} {ws ws' : List Cond} {rm : Room} {Pc : Array Value → State → Prop} {Qc : Array Value → State → Outcome → State → Prop} {XC : String → State → State → Prop} {mc ms : Nat} {free : Addr → Prop} {cc : ByteArray} {maxL : Nat} {ret : Option FieldType}
    (hy : plainName y.cls = true) (hw : ws = Cond.code y cc maxL ret :: ws')
    (body : ∀ p e s m args below meth c s₁, BodyLoose p l y (headSpec ws rm) cc maxL ret e s m args below meth c s₁ → c.maxLocals = maxL → (∀ x ∈ c.exceptionTable.toList, False) → Pc args s →
      W p l e (headSpec ws rm).room s m args below meth c s.heap [] 0 0 (vx_MQ below Qc XC args s mc ms free) (entryFrame m args maxL)) : vx_Met l y ws rm Pc Qc XC mc ms free := by
  refine MetFree.of_bodyS (code := cc) (maxLocals := maxL) (ret := ret) hy ?_ ?_
  · intro args s m h hn
    obtain ⟨meth, c, h1, h2, h3, h4, h5, h6, -, -⟩ := Cond.code_spec hn (atoms_spec (ws := ws) h _ (by rw [hw]; exact List.mem_cons_self))
    exact ⟨meth, c, h1, h2, h3, h4, h5, h6⟩
  · intro p e s m args below meth c s₁ B hml hP _
    have hh0 : s₁.heap = s.heap := by rw [B.state]; rfl
    have ht : ∀ x ∈ c.exceptionTable.toList, False := by
      obtain ⟨meth9, c9, h1, h2, -, -, -, -, h7, -⟩ := Cond.code_spec B.named (atoms_spec (ws := ws) B.pre _ (by rw [hw]; exact List.mem_cons_self))
      cases Option.some.inj (h1.symm.trans B.method)
      cases Option.some.inj (h2.symm.trans (Stand.of_body B).code)
      intro x hx
      rw [Array.isEmpty_iff.mp h7] at hx
      cases hx
    obtain ⟨t, a1, o, b1, b2, b3⟩ := body p e s m args below meth c s₁ B hml ht hP s₁ hh0 (Stand.of_body B)
    exact ⟨t, o, a1, b1, b2, b3⟩
/-- the table of a body with handlers -/
theorem vx_table {p : Program} {x y : MethodName} {S : Spec} {cc bytes : ByteArray} {maxL maxL' : Nat} {ret ret' : Option FieldType} {e : Env} {s s₁ : State} {m : MethodId} {args : Array Value} {below : List Frame} {meth : Method} {c : Code} {hh : List (Nat × Nat × Nat × Nat)}
    (B : BodyLoose p l y S cc maxL ret e s m args below meth c s₁) (h : (Cond.codeWith y bytes maxL' ret' hh).before args s = true) : c.exceptionTable.toList = tableOf hh := by
  obtain ⟨m9, meth9, c9, hn9, h1, h2, -, -, h6, -⟩ := Cond.codeWith_spec h
  cases Option.some.inj (hn9.symm.trans B.named)
  cases Option.some.inj (h1.symm.trans B.method)
  cases Option.some.inj (h2.symm.trans (Stand.of_body B).code)
  rw [← h6, table_eq]
end Bodies
end VXA
/-! ===== END ===== -/
/-! ===== BEGIN a static call of a method with an exception table ===== -/
section VXS
variable {p : Program} {l : Launch} {e : Env} {R : Room} {s : State} {m : MethodId} {args : Array Value} {below : List Frame} {meth : Method} {c : Code} {T : State} {H : Heap} {locs : List Loc} {cells slots : Nat}
abbrev vx_CSW (R : Room) (s : State) (args : Array Value) (own : String) (index : Nat) (y : MethodName) (bytes : ByteArray) (maxL : Nat) (ret : Option FieldType) (hh : List (Nat × Nat × Nat × Nat)) (ws : List Cond) (rm : Room) (mc ms n : Nat) : Prop :=
  (rm.cells = mc ∧ rm.slots = ms ∧ rm.frames + 1 ≤ R.frames ∧ 8 + (maxL + 11) + rm.locals ≤ R.locals ∧ (∀ w ∈ ws, ∀ (a' : Array Value) (U : State), s.WarmedH U.vm → w.before a' U = true) ∧ Cond.codeWith y bytes maxL ret hh ∈ ws) ∧
  (Cond.codeWith y bytes maxL ret hh).before args s = true ∧ (Cond.initialized y.cls).before args s = true ∧ (y.cls ≠ "java/lang/invoke/MethodHandle" ∧ y.cls ≠ "java/lang/invoke/VarHandle") ∧
  (∀ sig, parseMethodDescriptor y.desc = some sig → n = sig.parameters.length) ∧ (Cond.methodLink own index y).before args s = true ∧ (Cond.static y).before args s = true
theorem vx_cwSW {own : String} {index maxL mc ms : Nat} {y : MethodName} {bytes : ByteArray} {ret : Option FieldType} {hh : List (Nat × Nat × Nat × Nat)} {Ts ws ws' : List Cond} {rm : Room} (n : Nat) (ht : ∀ w ∈ Ts, w.before args s = true) (hT : GoodIn Ts (va_wsS own index y ws)) (hw : ws = Cond.codeWith y bytes maxL ret hh :: ws') (hrc : rm.cells = mc) (hrs : rm.slots = ms)
    (hd : y.cls ≠ "java/lang/invoke/MethodHandle" ∧ y.cls ≠ "java/lang/invoke/VarHandle" ∧ (parseMethodDescriptor y.desc).map (fun d => d.parameters.length) = some n) (hR : rm.frames + 1 ≤ R.frames ∧ 8 + (maxL + 11) + rm.locals ≤ R.locals) :
    vx_CSW R s args own index y bytes maxL ret hh ws rm mc ms n := by
  have ok : ∀ w ∈ va_wsS own index y ws, w.before args s = true := fun w h => ht w (hT w h).1
  have hG : GoodIn Ts ws := fun w h => hT w (by unfold va_wsS; exact List.mem_append_right _ h)
  have hc : Cond.codeWith y bytes maxL ret hh ∈ ws := by rw [hw]; exact List.mem_cons_self
  refine ⟨⟨hrc, hrs, hR.1, hR.2, pay_in ht hG, hc⟩, ht _ (hG _ hc).1, ok _ (by simp [va_wsS]), ⟨hd.1, hd.2.1⟩, fun sig h => ?_, ok _ (by simp [va_wsS]), ok _ (by simp [va_wsS])⟩
  have h2 := hd.2.2
  rw [h] at h2
  exact (Option.some.inj h2).symm
theorem vx_callSW (X : Stand p l e R s m args below meth c T locs cells slots) (hexec : p.tables.exec = Jvm.exec) {own : String} {index : Nat} {y : MethodName} {bytes : ByteArray} {maxL : Nat} {ret : Option FieldType} {hh : List (Nat × Nat × Nat × Nat)}
    (hown : s.vm.findClass own = some m.cls) (hlink : (Cond.methodLink own index y).before args s = true) (hstat : (Cond.static y).before args s = true) (hinit : (Cond.initialized y.cls).before args s = true)
    (hcode : (Cond.codeWith y bytes maxL ret hh).before args s = true) (hy : y.cls ≠ "java/lang/invoke/MethodHandle" ∧ y.cls ≠ "java/lang/invoke/VarHandle")
    {W9 : Nat} {Pre : Pt → Array Value → Prop} {Post : Pt → Array Value → Option Value → Pt → Prop} (hK : Back l R p e below s args y 3 W9 Pre Post)
    {g : JFrame} (hg : g.method = m) (hsize : g.locals.size = c.maxLocals) {argsL rest : List Value} (hlen : ∀ sig, parseMethodDescriptor y.desc = some sig → argsL.length = sig.parameters.length)
    (hstack : g.stack = argsL.reverse ++ rest) (hW : 2 * g.monitorRoom + (rest.map fun v => v.category).sum ≤ W9) (hdg : decode c.code g.pc = .ok (.invokestatic index, 3))
    (hpre : ∀ vm₁, s.WarmedH vm₁ → Pre ⟨T.setVm vm₁, locs, cells, slots⟩ argsL.toArray) :
    ∃ (v : Option Value) (vm₁ : Vm) (B : Pt), s.WarmedH vm₁ ∧ Stand p l e R s m args below meth c B.U B.locs B.cells B.slots ∧ Post ⟨T.setVm vm₁, locs, cells, slots⟩ argsL.toArray v B ∧
      ∀ target, Steps p.tables e below (B.U.setTop { g with pc := g.pc + 3, stack := v.toList ++ rest }) target → Steps p.tables e below (T.setTop g) target := by
  obtain ⟨mk, methM, cM, hnamed, hmethM, -, -, -, -, -, -, hsigM⟩ := Cond.codeWith_spec hcode
  have hstatic : methM.isStatic = true := Cond.static_spec hnamed hmethM hstat
  obtain ⟨kP, hkP, -⟩ := className_of_methodNamed hnamed
  have hinitP : kP.init = .initialized := Cond.initialized_spec (findClass_of_methodNamed hnamed) hkP hinit
  obtain ⟨vm₁, X₁, hstep₁⟩ := X.invokestatic hexec hown hlink hnamed hmethM hstatic hkP hinitP hy (g := g) hg (argsL := argsL) (rest := rest) (hlen _ hsigM) hstack hdg
  obtain ⟨v, B, X', hpost, hsteps⟩ := hK m meth c ⟨T.setVm vm₁, locs, cells, slots⟩ { g with stack := rest } (.invokestatic index) mk argsL.toArray X₁ hg hsize hdg hW (X₁.named hnamed) (hpre vm₁ X₁.warmed)
  exact ⟨v, vm₁, B, X₁.warmed, X', hpost, fun target h => hstep₁ _ fun acts => by rw [doInvoke_state]; exact hsteps.trans h⟩
theorem vx_runSW {y : MethodName} {bytes cc : ByteArray} {maxL nL mc ms n index : Nat} {ret : Option FieldType} {hh : List (Nat × Nat × Nat × Nat)} {ws : List Cond} {rm : Room} {Pc : Array Value → State → Prop} {Qc : Array Value → State → Outcome → State → Prop} {free : Addr → Prop} {Ts : List Cond} {own : String} {As rest : List Value} {g : JFrame}
    (S : CallFix p m c cc nL s args Ts own) (hM : Met l y ws rm Pc Qc mc ms free) (cw : vx_CSW R s args own index y bytes maxL ret hh ws rm mc ms n) (hp : PreS s H Pc As)
    (hg : g.method = m) (hn : As.length = n) (hsize : g.locals.size = nL) (hstack : g.stack = As.reverse ++ rest) (hW : 2 * g.monitorRoom + (rest.map fun v => v.category).sum ≤ 8) (hdg : decode cc g.pc = .ok (.invokestatic index, 3)) (hf : cells + mc ≤ R.cells ∧ slots + ms ≤ R.slots) :
    va_Run p l e R s m args below meth c H locs cells slots mc ms g rest (Qc As.toArray) (free) := by
  obtain ⟨⟨hrc, hrs, hfr, hlo, hws, hcw⟩, hcode, hini, hy, hlen, hl, hstt⟩ := cw
  have hK : Back l R p e below s args y 3 8 (PreOf R mc ms Pc) (PostOf Qc mc ms free) := va_backW (hh := hh) (bytes := bytes) (maxL := maxL) (ret := ret) hM hp.1 hrc hrs hfr hlo hws hcw (fun a' U hW => word_at hW (Or.inl (by first | rfl | simp [Cond.onTables, Cond.keeps, Cond.steady])) hini)
  obtain ⟨hx, hb, hml, ho, -⟩ := S
  intro T hT X
  obtain ⟨v, vm₁, ⟨U', l2, c2, s2⟩, hW₁, X', ⟨g', mk, t, L, e1, e2, hq, h1, hL, h2, h3⟩, st⟩ := vx_callSW X hx (hh := hh) (bytes := bytes) (maxL := maxL) (ret := ret) ho hl hstt hini hcode hy hK hg (hsize.trans hml.symm) (argsL := As) (rest := rest) (fun sig h => hn.trans (hlen sig h)) hstack hW (by rw [hb]; exact hdg)
    (fun vm₁ hW₁ => ⟨hf.1, hf.2, hp.2 (T.setVm vm₁) hT hW₁⟩)
  dsimp only [Pt.U, Pt.locs, Pt.cells, Pt.slots] at X' e1 e2 h1 h2 h3 st
  subst h1; subst h2; subst h3
  exact ⟨v, (T.setVm vm₁).calling g' mk As.toArray, t, U', L, hT, X', hL, e1, e2, hq, st⟩
/-- not caught here, past rows that name other classes: it goes on to the caller -/
theorem vx_outP {p : Program} {l : Launch} {e : Env} {R : Room} {s : State} {m : MethodId} {args : Array Value} {below : List Frame} {meth : Method} {c : Code} {H : Heap} {locs : List Loc} {cells slots : Nat} {free : Addr → Prop} {ls : Array Slot} {rest : List Value} {Qc : Array Value → State → Outcome → State → Prop} {XC : String → State → State → Prop}
    {pc : Nat} {own E : String} {ce : Cell} {q : Addr} {mc ms : Nat} (hown : s.vm.findClass own = some m.cls) (hlocks : meth.locks = false)
    (hpass : ∀ z ∈ c.exceptionTable.toList, covers z pc = false ∨ (z.catchType ≠ 0 ∧ ∃ nm : String, (Cond.classLink own z.catchType nm).before args s = true ∧ va_Nc E nm s)) (hcell : H[q]? = some ce) (hv : ce.vm = .none) (hcl : s.vm.findClass E = some ce.cls)
    (hx : ∀ t : State, t.heap = H → s.vm.Alike t.vm → XC E s t) (hf : ∀ z ∈ locs, free z.base) (hc : cells ≤ mc) (hs : slots ≤ ms) :
    vx_W p l e R s m args below meth c H locs cells slots (vx_MQ below Qc XC args s mc ms free) (F0 m pc ls rest) q := by
  intro T hT X
  have hpl : e.platform.magicAccessors = ({} : Platform).magicAccessors := by rw [X.admits.platform]
  obtain ⟨vm', hW', X', st⟩ := X.outThrough hlocks q (g := F0 m pc ls rest) rfl rfl rfl (cell := ce) (by rw [hT]; exact hcell) (by rw [hv]; rfl)
    (by obtain ⟨k9, h9, -⟩ := Vm.findClass_spec hcl; exact ⟨k9, h9⟩) (fun z hz => by
      rcases hpass z hz with h | ⟨hz0, nm, hl1, hn1⟩
      · exact Or.inl h
      · obtain ⟨c6, hc6, hcl6⟩ := Cond.classLink_spec hown hl1 e.platform hpl
        obtain ⟨a8, b8, h1, h2, h3⟩ := hn1
        cases Option.some.inj (h1.symm.trans hcl)
        cases Option.some.inj (h2.symm.trans hc6)
        exact Or.inr ⟨hz0, _, hcl6, h3⟩)
  obtain ⟨g₀, hfr⟩ := X'.frames_eq
  have hcell9 : ((T.setVm vm').setFrames (.throwing q :: below)).heap[q]? = some ce := by
    show T.heap[q]? = some ce
    rw [hT]; exact hcell
  have hend : Ended ((T.setVm vm').setFrames (.throwing q :: below)) below (.threw q) := State.frames_setFrames _ (State.cur_lt_of_frames hfr)
  refine ⟨(T.setVm vm').setFrames (.throwing q :: below), ?_, .threw q, X'.here.running, hend, Or.inr ⟨q, rfl, E, ce, locs, hx _ hT (X'.ends _).1.alike, hcell9, hv, hcl, (X'.ends _).1, (X'.ends _).2.mono hc hs, hf⟩⟩
  rw [X.pushThrowing_eq]
  exact st
/-- a thing of a world lies in the heap -/
theorem vx_lt {D : va_G} {cl : List vw_C} {ws : va_W} {H1 : Heap} (h : va_P D cl ws H1) {k : Nat} {q : Nat × va_E} (hk : ws[k]? = some q) : q.1 < H1.size := (h k q hk).lt
end VXS
/-! ===== END ===== -/
/-! ===== BEGIN methods with a table of their own: called by a name, returning or throwing ===== -/
section VXH
/-! vx_backW, vx_callVX, vx_callSX, vx_callVW, vx_runVW, vx_runVX, vx_runSX, vx_ofWH follow the same proofs as their sisters above (Free/Laws.lean, Shelf42/LK1.lean); vx_outP calls Shelf42/NT130.lean (outThrough). -/
section
variable {l : Launch} {R : Room} {p : Program} {e : Env} {below : List Frame} {s : State} {sargs : Array Value} {y : MethodName} {len W9 : Nat}
theorem vx_backW {ws : List Cond} {rm : Room} {Pc : Array Value → State → Prop} {Qc : Array Value → State → Outcome → State → Prop} {XC : String → State → State → Prop} {mc ms : Nat} {free : Addr → Prop} {bytes : ByteArray} {maxL : Nat} {ret : Option FieldType} {hh : List (Nat × Nat × Nat × Nat)}
    (hM : vx_Met l y ws rm Pc Qc XC mc ms free) (hblind : FrameBlind Pc) (hrc : rm.cells = mc) (hrs : rm.slots = ms)
    (hframes : rm.frames + 1 ≤ R.frames) (hlocals : W9 + (maxL + 11) + rm.locals ≤ R.locals)
    (hws : ∀ w ∈ ws, ∀ a' U, s.WarmedH U.vm → w.before a' U = true) (hcode : Cond.codeWith y bytes maxL ret hh ∈ ws) (hinit : ∀ a' U, s.WarmedH U.vm → (Cond.initialized y.cls).before a' U = true) :
    vx_Back l R p e below s sargs y len W9 (PreOf R mc ms Pc) (PostOf Qc mc ms free) (vx_Post XC mc ms free) := by
  intro m meth c A g ig mk a X hg hsize hdg hW hn hp
  have h1 : (headSpec ws rm).pre.before a A.U = true := atoms_intro fun w hw => hws w hw _ _ X.warmed
  have h2 : (Cond.codeWith y bytes maxL ret hh).before a A.U = true := hws _ hcode _ _ X.warmed
  have h3 : (Cond.initialized y.cls).before a A.U = true := hinit _ _ X.warmed
  have h4 : A.cells + (headSpec ws rm).room.cells ≤ R.cells := by rw [show (headSpec ws rm).room.cells = mc from hrc]; exact hp.1
  have h5 : A.slots + (headSpec ws rm).room.slots ≤ R.slots := by rw [show (headSpec ws rm).room.slots = ms from hrs]; exact hp.2.1
  have hPc : Pc a (A.U.calling g mk a) := hblind _ _ _ _ hp.2.2
  obtain ⟨U, Ls, c0, s0⟩ := A
  dsimp only [Pt.U, Pt.locs, Pt.cells, Pt.slots] at h1 h2 h3 h4 h5 X hn hPc ⊢
  obtain ⟨m9, methY, cY, hn9, hmY, hcY, -, hlY, -⟩ := Cond.codeWith_spec h2
  cases Option.some.inj (hn9.symm.trans hn)
  obtain ⟨kY, hkY, -⟩ := className_of_methodNamed hn
  have hinitY : kY.init = .initialized := Cond.initialized_spec (findClass_of_methodNamed hn) hkY h3
  have h : At U g.method c below := by rw [hg]; exact X.here
  have hlocals9 : W9 + (maxL + 11) + (headSpec ws rm).room.locals ≤ R.locals := hlocals
  have happ : (headSpec ws rm).appliesLoose y e.platform (U.calling g mk a) = true :=
    Spec.appliesLoose_calling (g := g) h hdg hn hkY hinitY
      (X.room_calling (g := g) (R' := (headSpec ws rm).room) hsize hmY hcY hframes (by rw [hlY]; omega) h4 h5) h1
  obtain ⟨mid, hmid⟩ := h.above
  have hfr : (U.setTop g).frames = (.java g :: mid) ++ below := by rw [State.frames_setTop' g h.top, hmid]; rfl
  obtain ⟨o, s₂, hsteps, -, hend, hq⟩ := Steps.callFree hM p X.admits X.cas X.clock (acts := []) hfr happ hPc trivial
  have hq' : vx_Q Qc XC mc ms free a (U.calling g mk a) o s₂ := hq
  rw [State.frames_setTop' g h.top] at hend
  obtain ⟨g₀, hg0⟩ := Option.isSome_iff_exists.mp h.top
  obtain ⟨r, hr⟩ := State.topJava?_eq_some.mp hg0
  have hr' : (({ U with heap := s₂.heap, slotsUsed := s₂.slotsUsed } : State).setVm s₂.vm).frames = .java g₀ :: r := hr
  rcases hq' with ⟨hqc, L, hfe, hL⟩ | ⟨q, rfl, E, ce, L, hx, hce, hcv, hcl, hW₂, hsm, hL⟩
  · obtain ⟨⟨v, rfl⟩, hW₂, e2, q2, q3, q4, q5, q6⟩ := id hfe
    have e3 : s₂ = ({ (U.calling g mk a).setFrames s₂.frames with heap := s₂.heap, slotsUsed := s₂.slotsUsed } : State).setVm s₂.vm := by
      have : s₂ = ({ s₂ with vm := (U.calling g mk a).vm } : State).setVm s₂.vm := rfl
      rw [e2] at this
      exact this
    obtain ⟨c₂, i₂, len₂, hc₂, hd₂, hf₂⟩ := hend
    have hW' : U.WarmedH s₂.vm := hW₂
    have hcc : c₂ = c := by
      have h1 : s₂.code? g.method = U.code? g.method := by
        rw [State.code?_eq, State.code?_eq, hW'.alike.method?]
      exact Option.some.inj (hc₂.symm.trans (h1.trans h.code))
    subst hcc
    have hlen : len₂ = len := by rw [hdg] at hd₂; cases hd₂; rfl
    subst hlen
    have hs₂ : s₂ = (({ U with heap := s₂.heap, slotsUsed := s₂.slotsUsed } : State).setVm s₂.vm).setTop { g with pc := g.pc + len₂, stack := v.toList ++ g.stack } := by
      refine e3.trans ?_
      rw [hf₂, State.calling_eq h.top, State.setFrames_setFrames, State.setTop_of_frames _ hr', hr]
      rfl
    have hsame : U.sameButNew ({ U with heap := s₂.heap, slotsUsed := s₂.slotsUsed } : State) L mc ms := by
      refine ⟨?_, q2, q3, q4, q5, q6⟩
      obtain ⟨t, ht, -⟩ := State.frames_cons hr
      show ({ U with heap := s₂.heap, slotsUsed := s₂.slotsUsed } : State) = { U.setFrames U.frames with heap := s₂.heap, slotsUsed := s₂.slotsUsed }
      rw [State.setFrames_self ht]
    subst hg
    refine Or.inl ⟨v, ⟨(({ U with heap := s₂.heap, slotsUsed := s₂.slotsUsed } : State).setVm s₂.vm), Ls ++ L, c0 + mc, s0 + ms⟩,
      ⟨X.admits, X.cas, X.clock, X.frames, X.room, X.hears, X.method, X.code, (X.here.setHeapUsed s₂.heap s₂.slotsUsed).setVm hW'.alike, X.tail, State.WarmedH.trans X.warmed hW', X.limits, X.bytes, X.same.trans (hsame.setVm s.vm)⟩,
      ⟨g, mk, s₂, L, rfl, rfl, hqc, rfl, hL, rfl, rfl⟩, ?_⟩
    show Steps p.tables e below _ ((({ U with heap := s₂.heap, slotsUsed := s₂.slotsUsed } : State).setVm s₂.vm).setTop { g with pc := g.pc + len₂, stack := v.toList ++ g.stack })
    rw [← hs₂]
    exact hsteps
  · obtain ⟨e2, q2, q3, q4, q5, q6⟩ := id hsm
    have e3 : s₂ = ({ (U.calling g mk a).setFrames s₂.frames with heap := s₂.heap, slotsUsed := s₂.slotsUsed } : State).setVm s₂.vm := by
      have : s₂ = ({ s₂ with vm := (U.calling g mk a).vm } : State).setVm s₂.vm := rfl
      rw [e2] at this
      exact this
    have hf₂ : s₂.frames = .throwing q :: .java g :: U.frames.tail := hend
    have hW' : U.WarmedH s₂.vm := hW₂
    have hs₂ : s₂ = ((({ U with heap := s₂.heap, slotsUsed := s₂.slotsUsed } : State).setVm s₂.vm).setTop g).pushFrame (.throwing q) := by
      refine e3.trans ?_
      rw [hf₂, State.calling_eq h.top, State.setFrames_setFrames, State.pushFrame, State.frames_setTop _ hr', State.setTop_of_frames _ hr', State.setFrames_setFrames, hr]
      rfl
    have hsame : U.sameButNew ({ U with heap := s₂.heap, slotsUsed := s₂.slotsUsed } : State) L mc ms := by
      refine ⟨?_, q2, q3, q4, q5, q6⟩
      obtain ⟨t, ht, -⟩ := State.frames_cons hr
      show ({ U with heap := s₂.heap, slotsUsed := s₂.slotsUsed } : State) = { U.setFrames U.frames with heap := s₂.heap, slotsUsed := s₂.slotsUsed }
      rw [State.setFrames_self ht]
    subst hg
    refine Or.inr ⟨q, ⟨(({ U with heap := s₂.heap, slotsUsed := s₂.slotsUsed } : State).setVm s₂.vm), Ls ++ L, c0 + mc, s0 + ms⟩,
      ⟨X.admits, X.cas, X.clock, X.frames, X.room, X.hears, X.method, X.code, (X.here.setHeapUsed s₂.heap s₂.slotsUsed).setVm hW'.alike, X.tail, State.WarmedH.trans X.warmed hW', X.limits, X.bytes, X.same.trans (hsame.setVm s.vm)⟩,
      ⟨g, mk, s₂, L, E, ce, rfl, rfl, hx, hce, hcv, hcl, rfl, hL, rfl, rfl⟩, ?_⟩
    show Steps p.tables e below _ (((({ U with heap := s₂.heap, slotsUsed := s₂.slotsUsed } : State).setVm s₂.vm).setTop g).pushFrame (.throwing q))
    rw [← hs₂]
    exact hsteps
end
variable {p : Program} {l : Launch} {e : Env} {R : Room} {s : State} {m : MethodId} {args : Array Value} {below : List Frame} {meth : Method} {c : Code} {T : State} {H : Heap} {locs : List Loc} {cells slots : Nat}
theorem vx_callVX (X : Stand p l e R s m args below meth c T locs cells slots) (hexec : p.tables.exec = Jvm.exec) {own C : String} {index : Nat} {y : MethodName} {bytes : ByteArray} {maxL : Nat} {ret : Option FieldType} {hh : List (Nat × Nat × Nat × Nat)}
    (hown : s.vm.findClass own = some m.cls) (hlink : (Cond.methodLink own index y).before args s = true) (hinst : (Cond.instanceMethod y).before args s = true) (hsel : (Cond.selects C y y).before args s = true)
    (hcode : (Cond.codeWith y bytes maxL ret hh).before args s = true) (hy : y.cls ≠ "java/lang/invoke/MethodHandle" ∧ y.cls ≠ "java/lang/invoke/VarHandle")
    {W9 : Nat} {Pre : Pt → Array Value → Prop} {Post : Pt → Array Value → Option Value → Pt → Prop} {PostX : Pt → Array Value → Addr → Pt → Prop} (hK : vx_Back l R p e below s args y 3 W9 Pre Post PostX)
    {b : Addr} {cellB : Cell} (hcell : T.heap[b]? = some cellB) (hobj : cellB.vm.isStatics = false) (hcls : s.vm.findClass C = some cellB.cls)
    {g : JFrame} (hg : g.method = m) (hsize : g.locals.size = c.maxLocals) {argsL rest : List Value} (hlen : ∀ sig, parseMethodDescriptor y.desc = some sig → argsL.length = sig.parameters.length)
    (hstack : g.stack = argsL.reverse ++ .ref b :: rest) (hW : 2 * g.monitorRoom + (rest.map fun v => v.category).sum ≤ W9) (hdg : decode c.code g.pc = .ok (.invokevirtual index, 3))
    (hpre : ∀ vm₁, s.WarmedH vm₁ → Pre ⟨T.setVm vm₁, locs, cells, slots⟩ (Value.ref b :: argsL).toArray) :
    (∃ (v : Option Value) (vm₁ : Vm) (B : Pt), s.WarmedH vm₁ ∧ Stand p l e R s m args below meth c B.U B.locs B.cells B.slots ∧ Post ⟨T.setVm vm₁, locs, cells, slots⟩ (Value.ref b :: argsL).toArray v B ∧
      ∀ target, Steps p.tables e below (B.U.setTop { g with pc := g.pc + 3, stack := v.toList ++ rest }) target → Steps p.tables e below (T.setTop g) target) ∨
    (∃ (q : Addr) (vm₁ : Vm) (B : Pt), s.WarmedH vm₁ ∧ Stand p l e R s m args below meth c B.U B.locs B.cells B.slots ∧ PostX ⟨T.setVm vm₁, locs, cells, slots⟩ (Value.ref b :: argsL).toArray q B ∧
      Steps p.tables e below (T.setTop g) ((B.U.setTop { g with stack := rest }).pushFrame (.throwing q))) := by
  obtain ⟨mk, methM, hnamed, hmethM, hstM, habM⟩ := Cond.instanceMethod_spec hinst
  obtain ⟨m8, methM', cM, hn8, hmethM', -, -, -, -, -, -, hsigM⟩ := Cond.codeWith_spec hcode
  cases Option.some.inj (hn8.symm.trans hnamed)
  cases hmethM.symm.trans hmethM'
  obtain ⟨c2, r2, m2, q1, q2, q3, q4, kP, hkP, hkPi⟩ := Cond.selects_spec hsel
  cases hcls.symm.trans q1
  cases (State.methodFound?_of_named hnamed hy).symm.trans q2
  cases hnamed.symm.trans q3
  have hselP : selectMethod e.platform s.vm cellB.cls mk = .method mk := by rw [Launch.admits_selectMethod X.admits]; exact q4
  obtain ⟨vm₁, X₁, hstep₁⟩ := X.invokevirtual hexec hown hlink hnamed hmethM hstM hkP hkPi hy (a := b) (cell := cellB) hcell
    (fun z h => by rw [h] at hobj; cases hobj) hselP hmethM habM hkP hkPi (g := g) hg (argsL := argsL) (rest := rest) (hlen _ hsigM) hstack hdg
  rcases hK m meth c ⟨T.setVm vm₁, locs, cells, slots⟩ { g with stack := rest } (.invokevirtual index) mk (Value.ref b :: argsL).toArray X₁ hg hsize hdg hW (X₁.named hnamed) (hpre vm₁ X₁.warmed) with ⟨v, B, X', hpost, hsteps⟩ | ⟨q, B, X', hpost, hsteps⟩
  · exact Or.inl ⟨v, vm₁, B, X₁.warmed, X', hpost, fun target h => hstep₁ _ fun acts => by rw [doInvoke_state]; exact hsteps.trans h⟩
  · exact Or.inr ⟨q, vm₁, B, X₁.warmed, X', hpost, hstep₁ _ fun acts => by rw [doInvoke_state]; exact hsteps⟩
theorem vx_callSX (X : Stand p l e R s m args below meth c T locs cells slots) (hexec : p.tables.exec = Jvm.exec) {own : String} {index : Nat} {y : MethodName} {bytes : ByteArray} {maxL : Nat} {ret : Option FieldType} {hh : List (Nat × Nat × Nat × Nat)}
    (hown : s.vm.findClass own = some m.cls) (hlink : (Cond.methodLink own index y).before args s = true) (hstat : (Cond.static y).before args s = true) (hinit : (Cond.initialized y.cls).before args s = true)
    (hcode : (Cond.codeWith y bytes maxL ret hh).before args s = true) (hy : y.cls ≠ "java/lang/invoke/MethodHandle" ∧ y.cls ≠ "java/lang/invoke/VarHandle")
    {W9 : Nat} {Pre : Pt → Array Value → Prop} {Post : Pt → Array Value → Option Value → Pt → Prop} {PostX : Pt → Array Value → Addr → Pt → Prop} (hK : vx_Back l R p e below s args y 3 W9 Pre Post PostX)
    {g : JFrame} (hg : g.method = m) (hsize : g.locals.size = c.maxLocals) {argsL rest : List Value} (hlen : ∀ sig, parseMethodDescriptor y.desc = some sig → argsL.length = sig.parameters.length)
    (hstack : g.stack = argsL.reverse ++ rest) (hW : 2 * g.monitorRoom + (rest.map fun v => v.category).sum ≤ W9) (hdg : decode c.code g.pc = .ok (.invokestatic index, 3))
    (hpre : ∀ vm₁, s.WarmedH vm₁ → Pre ⟨T.setVm vm₁, locs, cells, slots⟩ argsL.toArray) :
    (∃ (v : Option Value) (vm₁ : Vm) (B : Pt), s.WarmedH vm₁ ∧ Stand p l e R s m args below meth c B.U B.locs B.cells B.slots ∧ Post ⟨T.setVm vm₁, locs, cells, slots⟩ argsL.toArray v B ∧
      ∀ target, Steps p.tables e below (B.U.setTop { g with pc := g.pc + 3, stack := v.toList ++ rest }) target → Steps p.tables e below (T.setTop g) target) ∨
    (∃ (q : Addr) (vm₁ : Vm) (B : Pt), s.WarmedH vm₁ ∧ Stand p l e R s m args below meth c B.U B.locs B.cells B.slots ∧ PostX ⟨T.setVm vm₁, locs, cells, slots⟩ argsL.toArray q B ∧
      Steps p.tables e below (T.setTop g) ((B.U.setTop { g with stack := rest }).pushFrame (.throwing q))) := by
  obtain ⟨mk, methM, cM, hnamed, hmethM, -, -, -, -, -, -, hsigM⟩ := Cond.codeWith_spec hcode
  have hstatic : methM.isStatic = true := Cond.static_spec hnamed hmethM hstat
  obtain ⟨kP, hkP, -⟩ := className_of_methodNamed hnamed
  have hinitP : kP.init = .initialized := Cond.initialized_spec (findClass_of_methodNamed hnamed) hkP hinit
  obtain ⟨vm₁, X₁, hstep₁⟩ := X.invokestatic hexec hown hlink hnamed hmethM hstatic hkP hinitP hy (g := g) hg (argsL := argsL) (rest := rest) (hlen _ hsigM) hstack hdg
  rcases hK m meth c ⟨T.setVm vm₁, locs, cells, slots⟩ { g with stack := rest } (.invokestatic index) mk argsL.toArray X₁ hg hsize hdg hW (X₁.named hnamed) (hpre vm₁ X₁.warmed) with ⟨v, B, X', hpost, hsteps⟩ | ⟨q, B, X', hpost, hsteps⟩
  · exact Or.inl ⟨v, vm₁, B, X₁.warmed, X', hpost, fun target h => hstep₁ _ fun acts => by rw [doInvoke_state]; exact hsteps.trans h⟩
  · exact Or.inr ⟨q, vm₁, B, X₁.warmed, X', hpost, hstep₁ _ fun acts => by rw [doInvoke_state]; exact hsteps⟩
theorem vx_callVW (X : Stand p l e R s m args below meth c T locs cells slots) (hexec : p.tables.exec = Jvm.exec) {own C : String} {index : Nat} {y : MethodName} {bytes : ByteArray} {maxL : Nat} {ret : Option FieldType} {hh : List (Nat × Nat × Nat × Nat)}
    (hown : s.vm.findClass own = some m.cls) (hlink : (Cond.methodLink own index y).before args s = true) (hinst : (Cond.instanceMethod y).before args s = true) (hsel : (Cond.selects C y y).before args s = true)
    (hcode : (Cond.codeWith y bytes maxL ret hh).before args s = true) (hy : y.cls ≠ "java/lang/invoke/MethodHandle" ∧ y.cls ≠ "java/lang/invoke/VarHandle")
    {W9 : Nat} {Pre : Pt → Array Value → Prop} {Post : Pt → Array Value → Option Value → Pt → Prop} (hK : Back l R p e below s args y 3 W9 Pre Post)
    {b : Addr} {cellB : Cell} (hcell : T.heap[b]? = some cellB) (hobj : cellB.vm.isStatics = false) (hcls : s.vm.findClass C = some cellB.cls)
    {g : JFrame} (hg : g.method = m) (hsize : g.locals.size = c.maxLocals) {argsL rest : List Value} (hlen : ∀ sig, parseMethodDescriptor y.desc = some sig → argsL.length = sig.parameters.length)
    (hstack : g.stack = argsL.reverse ++ .ref b :: rest) (hW : 2 * g.monitorRoom + (rest.map fun v => v.category).sum ≤ W9) (hdg : decode c.code g.pc = .ok (.invokevirtual index, 3))
    (hpre : ∀ vm₁, s.WarmedH vm₁ → Pre ⟨T.setVm vm₁, locs, cells, slots⟩ (Value.ref b :: argsL).toArray) :
    ∃ (v : Option Value) (vm₁ : Vm) (B : Pt), s.WarmedH vm₁ ∧ Stand p l e R s m args below meth c B.U B.locs B.cells B.slots ∧ Post ⟨T.setVm vm₁, locs, cells, slots⟩ (Value.ref b :: argsL).toArray v B ∧
      ∀ target, Steps p.tables e below (B.U.setTop { g with pc := g.pc + 3, stack := v.toList ++ rest }) target → Steps p.tables e below (T.setTop g) target := by
  obtain ⟨mk, methM, hnamed, hmethM, hstM, habM⟩ := Cond.instanceMethod_spec hinst
  obtain ⟨m8, methM', cM, hn8, hmethM', -, -, -, -, -, -, hsigM⟩ := Cond.codeWith_spec hcode
  cases Option.some.inj (hn8.symm.trans hnamed)
  cases hmethM.symm.trans hmethM'
  obtain ⟨c2, r2, m2, q1, q2, q3, q4, kP, hkP, hkPi⟩ := Cond.selects_spec hsel
  cases hcls.symm.trans q1
  cases (State.methodFound?_of_named hnamed hy).symm.trans q2
  cases hnamed.symm.trans q3
  have hselP : selectMethod e.platform s.vm cellB.cls mk = .method mk := by rw [Launch.admits_selectMethod X.admits]; exact q4
  obtain ⟨vm₁, X₁, hstep₁⟩ := X.invokevirtual hexec hown hlink hnamed hmethM hstM hkP hkPi hy (a := b) (cell := cellB) hcell
    (fun z h => by rw [h] at hobj; cases hobj) hselP hmethM habM hkP hkPi (g := g) hg (argsL := argsL) (rest := rest) (hlen _ hsigM) hstack hdg
  obtain ⟨v, B, X', hpost, hsteps⟩ := hK m meth c ⟨T.setVm vm₁, locs, cells, slots⟩ { g with stack := rest } (.invokevirtual index) mk (Value.ref b :: argsL).toArray X₁ hg hsize hdg hW (X₁.named hnamed) (hpre vm₁ X₁.warmed)
  exact ⟨v, vm₁, B, X₁.warmed, X', hpost, fun target h => hstep₁ _ fun acts => by rw [doInvoke_state]; exact hsteps.trans h⟩
abbrev vx_CVW (R : Room) (s : State) (args : Array Value) (own C : String) (index : Nat) (y : MethodName) (bytes : ByteArray) (maxL : Nat) (ret : Option FieldType) (hh : List (Nat × Nat × Nat × Nat)) (ws : List Cond) (rm : Room) (mc ms n : Nat) : Prop :=
  (rm.cells = mc ∧ rm.slots = ms ∧ rm.frames + 1 ≤ R.frames ∧ 8 + (maxL + 11) + rm.locals ≤ R.locals ∧ (∀ w ∈ ws, ∀ (a' : Array Value) (U : State), s.WarmedH U.vm → w.before a' U = true) ∧ Cond.codeWith y bytes maxL ret hh ∈ ws) ∧
  (Cond.codeWith y bytes maxL ret hh).before args s = true ∧ (Cond.initialized y.cls).before args s = true ∧ (y.cls ≠ "java/lang/invoke/MethodHandle" ∧ y.cls ≠ "java/lang/invoke/VarHandle") ∧
  (∀ sig, parseMethodDescriptor y.desc = some sig → n = sig.parameters.length) ∧ (Cond.methodLink own index y).before args s = true ∧ (Cond.instanceMethod y).before args s = true ∧ (Cond.selects C y y).before args s = true
theorem vx_cwVW {own C : String} {index maxL mc ms : Nat} {y : MethodName} {bytes : ByteArray} {ret : Option FieldType} {hh : List (Nat × Nat × Nat × Nat)} {Ts ws ws' : List Cond} {rm : Room} (n : Nat) (ht : ∀ w ∈ Ts, w.before args s = true) (hT : GoodIn Ts (wsV own index C y ws)) (hw : ws = Cond.codeWith y bytes maxL ret hh :: ws') (hrc : rm.cells = mc) (hrs : rm.slots = ms)
    (hd : y.cls = C ∧ y.cls ≠ "java/lang/invoke/MethodHandle" ∧ y.cls ≠ "java/lang/invoke/VarHandle" ∧ (parseMethodDescriptor y.desc).map (fun d => d.parameters.length) = some n) (hR : rm.frames + 1 ≤ R.frames ∧ 8 + (maxL + 11) + rm.locals ≤ R.locals) :
    vx_CVW R s args own C index y bytes maxL ret hh ws rm mc ms n := by
  obtain ⟨hC, hd⟩ := hd
  subst hC
  have ok : ∀ w ∈ wsV own index y.cls y ws, w.before args s = true := fun w h => ht w (hT w h).1
  have hG : GoodIn Ts ws := fun w h => hT w (by unfold wsV; exact List.mem_append_right _ h)
  have hc : Cond.codeWith y bytes maxL ret hh ∈ ws := by rw [hw]; exact List.mem_cons_self
  refine ⟨⟨hrc, hrs, hR.1, hR.2, pay_in ht hG, hc⟩, ht _ (hG _ hc).1, ok _ (by simp [wsV]), ⟨hd.1, hd.2.1⟩, fun sig h => ?_, ok _ (by simp [wsV]), ok _ (by simp [wsV]), ok _ (by simp [wsV])⟩
  have h2 := hd.2.2
  rw [h] at h2
  exact (Option.some.inj h2).symm
theorem vx_runVW {y : MethodName} {bytes cc : ByteArray} {maxL nL mc ms n index : Nat} {ret : Option FieldType} {hh : List (Nat × Nat × Nat × Nat)} {ws : List Cond} {rm : Room} {Pc : Array Value → State → Prop} {Qc : Array Value → State → Outcome → State → Prop} {free : Addr → Prop} {Ts : List Cond} {own C : String} {b : Addr} {As rest : List Value} {g : JFrame}
    (S : CallFix p m c cc nL s args Ts own) (hM : Met l y ws rm Pc Qc mc ms free) (cw : vx_CVW R s args own C index y bytes maxL ret hh ws rm mc ms n) (hp : PreV s H C b Pc As)
    (hg : g.method = m) (hn : As.length = n) (hsize : g.locals.size = nL) (hstack : g.stack = As.reverse ++ .ref b :: rest) (hW : 2 * g.monitorRoom + (rest.map fun v => v.category).sum ≤ 8) (hdg : decode cc g.pc = .ok (.invokevirtual index, 3)) (hf : cells + mc ≤ R.cells ∧ slots + ms ≤ R.slots) :
    va_Run p l e R s m args below meth c H locs cells slots mc ms g rest (Qc (Value.ref b :: As).toArray) free := by
  obtain ⟨⟨hrc, hrs, hfr, hlo, hws, hcw⟩, hcode, hini, hy, hlen, hl, hin, hse⟩ := cw
  have hK : Back l R p e below s args y 3 8 (PreOf R mc ms Pc) (PostOf Qc mc ms free) := va_backW (hh := hh) (bytes := bytes) (maxL := maxL) (ret := ret) hM hp.1 hrc hrs hfr hlo hws hcw (fun a' U hW => word_at hW (Or.inl (by first | rfl | simp [Cond.onTables, Cond.keeps, Cond.steady])) hini)
  obtain ⟨hx, hb, hml, ho, -⟩ := S
  obtain ⟨-, ⟨cellB, hcB, hoB, hclB⟩, hPc⟩ := hp
  intro T hT X
  obtain ⟨v, vm₁, ⟨U', l2, c2, s2⟩, hW₁, X', ⟨g', mk, t, L, e1, e2, hq, h1, hL, h2, h3⟩, st⟩ := vx_callVW X hx (C := C) (hh := hh) (bytes := bytes) (maxL := maxL) (ret := ret) ho hl hin hse hcode hy hK (by rw [hT]; exact hcB) hoB hclB hg (hsize.trans hml.symm) (argsL := As) (rest := rest) (fun sig h => hn.trans (hlen sig h)) hstack hW (by rw [hb]; exact hdg)
    (fun vm₁ hW₁ => ⟨hf.1, hf.2, hPc (T.setVm vm₁) hT hW₁⟩)
  dsimp only [Pt.U, Pt.locs, Pt.cells, Pt.slots] at X' e1 e2 h1 h2 h3 st
  subst h1; subst h2; subst h3
  exact ⟨v, (T.setVm vm₁).calling g' mk (Value.ref b :: As).toArray, t, U', L, hT, X', hL, e1, e2, hq, st⟩
section
variable {y : MethodName} {bytes cc : ByteArray} {maxL nL mc ms n index : Nat} {ret : Option FieldType} {ws : List Cond} {rm : Room} {Pc : Array Value → State → Prop} {Qc : Array Value → State → Outcome → State → Prop} {XC : String → State → State → Prop} {free : Addr → Prop} {Ts : List Cond} {own C : String} {b : Addr} {As rest : List Value} {g : JFrame}
theorem vx_runVX {hh : List (Nat × Nat × Nat × Nat)} (S : CallFix p m c cc nL s args Ts own) (hM : vx_Met l y ws rm Pc Qc XC mc ms free) (cw : vx_CVW R s args own C index y bytes maxL ret hh ws rm mc ms n) (hp : PreV s H C b Pc As)
    (hg : g.method = m) (hn : As.length = n) (hsize : g.locals.size = nL) (hstack : g.stack = As.reverse ++ .ref b :: rest) (hW : 2 * g.monitorRoom + (rest.map fun v => v.category).sum ≤ 8) (hdg : decode cc g.pc = .ok (.invokevirtual index, 3)) (hf : cells + mc ≤ R.cells ∧ slots + ms ≤ R.slots) :
    vx_Run p l e R s m args below meth c H locs cells slots mc ms g rest (Qc (Value.ref b :: As).toArray) XC free := by
  obtain ⟨⟨hrc, hrs, hfr, hlo, hws, hcw⟩, hcode, hini, hy, hlen, hl, hin, hse⟩ := cw
  have hK : vx_Back l R p e below s args y 3 8 (PreOf R mc ms Pc) (PostOf Qc mc ms free) (vx_Post XC mc ms free) := vx_backW (hh := hh) (bytes := bytes) (maxL := maxL) (ret := ret) hM hp.1 hrc hrs hfr hlo hws hcw (fun a' U hW => word_at hW (Or.inl (by first | rfl | simp [Cond.onTables, Cond.keeps, Cond.steady])) hini)
  obtain ⟨hx, hb, hml, ho, -⟩ := S
  obtain ⟨-, ⟨cellB, hcB, hoB, hclB⟩, hPc⟩ := hp
  intro T hT X
  rcases vx_callVX X hx (C := C) (hh := hh) (bytes := bytes) (maxL := maxL) (ret := ret) ho hl hin hse hcode hy hK (by rw [hT]; exact hcB) hoB hclB hg (hsize.trans hml.symm) (argsL := As) (rest := rest) (fun sig h => hn.trans (hlen sig h)) hstack hW (by rw [hb]; exact hdg)
    (fun vm₁ hW₁ => ⟨hf.1, hf.2, hPc (T.setVm vm₁) hT hW₁⟩) with ⟨v, vm₁, ⟨U', l2, c2, s2⟩, hW₁, X', ⟨g', mk, t, L, e1, e2, hq, h1, hL, h2, h3⟩, st⟩ | ⟨q, vm₁, ⟨U', l2, c2, s2⟩, hW₁, X', ⟨g', mk, t, L, E, ce, e1, e2, hq, hce, hcv, hcl, h1, hL, h2, h3⟩, st⟩
  · dsimp only [Pt.U, Pt.locs, Pt.cells, Pt.slots] at X' e1 e2 h1 h2 h3 st
    subst h1; subst h2; subst h3
    exact Or.inl ⟨v, (T.setVm vm₁).calling g' mk (Value.ref b :: As).toArray, t, U', L, hT, X', hL, e1, e2, hq, st⟩
  · dsimp only [Pt.U, Pt.locs, Pt.cells, Pt.slots] at X' e1 e2 h1 h2 h3 st hcl
    subst h1; subst h2; subst h3
    exact Or.inr ⟨q, (T.setVm vm₁).calling g' mk (Value.ref b :: As).toArray, t, U', L, E, ce, hT, X', hL, e1, e2, hq, hce, hcv, vx_cls hW₁ hcl, st⟩
theorem vx_runSX {hh : List (Nat × Nat × Nat × Nat)} (S : CallFix p m c cc nL s args Ts own) (hM : vx_Met l y ws rm Pc Qc XC mc ms free) (cw : vx_CSW R s args own index y bytes maxL ret hh ws rm mc ms n) (hp : PreS s H Pc As)
    (hg : g.method = m) (hn : As.length = n) (hsize : g.locals.size = nL) (hstack : g.stack = As.reverse ++ rest) (hW : 2 * g.monitorRoom + (rest.map fun v => v.category).sum ≤ 8) (hdg : decode cc g.pc = .ok (.invokestatic index, 3)) (hf : cells + mc ≤ R.cells ∧ slots + ms ≤ R.slots) :
    vx_Run p l e R s m args below meth c H locs cells slots mc ms g rest (Qc As.toArray) XC free := by
  obtain ⟨⟨hrc, hrs, hfr, hlo, hws, hcw⟩, hcode, hini, hy, hlen, hl, hstt⟩ := cw
  have hK : vx_Back l R p e below s args y 3 8 (PreOf R mc ms Pc) (PostOf Qc mc ms free) (vx_Post XC mc ms free) := vx_backW (hh := hh) (bytes := bytes) (maxL := maxL) (ret := ret) hM hp.1 hrc hrs hfr hlo hws hcw (fun a' U hW => word_at hW (Or.inl (by first | rfl | simp [Cond.onTables, Cond.keeps, Cond.steady])) hini)
  obtain ⟨hx, hb, hml, ho, -⟩ := S
  intro T hT X
  rcases vx_callSX X hx (hh := hh) (bytes := bytes) (maxL := maxL) (ret := ret) ho hl hstt hini hcode hy hK hg (hsize.trans hml.symm) (argsL := As) (rest := rest) (fun sig h => hn.trans (hlen sig h)) hstack hW (by rw [hb]; exact hdg)
    (fun vm₁ hW₁ => ⟨hf.1, hf.2, hp.2 (T.setVm vm₁) hT hW₁⟩) with ⟨v, vm₁, ⟨U', l2, c2, s2⟩, hW₁, X', ⟨g', mk, t, L, e1, e2, hq, h1, hL, h2, h3⟩, st⟩ | ⟨q, vm₁, ⟨U', l2, c2, s2⟩, hW₁, X', ⟨g', mk, t, L, E, ce, e1, e2, hq, hce, hcv, hcl, h1, hL, h2, h3⟩, st⟩
  · dsimp only [Pt.U, Pt.locs, Pt.cells, Pt.slots] at X' e1 e2 h1 h2 h3 st
    subst h1; subst h2; subst h3
    exact Or.inl ⟨v, (T.setVm vm₁).calling g' mk As.toArray, t, U', L, hT, X', hL, e1, e2, hq, st⟩
  · dsimp only [Pt.U, Pt.locs, Pt.cells, Pt.slots] at X' e1 e2 h1 h2 h3 st hcl
    subst h1; subst h2; subst h3
    exact Or.inr ⟨q, (T.setVm vm₁).calling g' mk As.toArray, t, U', L, E, ce, hT, X', hL, e1, e2, hq, hce, hcv, vx_cls hW₁ hcl, st⟩
end
end VXH
theorem vx_ofWH {l : Launch} {y : MethodName} {ws ws' : List Cond} {rm : Room} {Pc : Array Value → State → Prop} {Qc : Array Value → State → Outcome → State → Prop} {XC : String → State → State → Prop} {mc ms : Nat} {free : Addr → Prop} {cc : ByteArray} {maxL : Nat} {ret : Option FieldType} {hh : List (Nat × Nat × Nat × Nat)}
    (hy : plainName y.cls = true) (hw : ws = Cond.codeWith y cc maxL ret hh :: ws')
    (body : ∀ p e s m args below meth c s₁, BodyLoose p l y (headSpec ws rm) cc maxL ret e s m args below meth c s₁ → c.maxLocals = maxL → Pc args s →
      W p l e (headSpec ws rm).room s m args below meth c s.heap [] 0 0 (vx_MQ below Qc XC args s mc ms free) (entryFrame m args maxL)) : vx_Met l y ws rm Pc Qc XC mc ms free := by
  refine MetFree.of_bodyS (code := cc) (maxLocals := maxL) (ret := ret) hy ?_ ?_
  · intro args s m h hn
    obtain ⟨m9, meth, c, hn9, h1, h2, h3, h4, -, h5, h6, -⟩ := Cond.codeWith_spec (atoms_spec (ws := ws) h _ (by rw [hw]; exact List.mem_cons_self))
    cases hn.symm.trans hn9
    exact ⟨meth, c, h1, h2, h3, h4, h5, h6⟩
  · intro p e s m args below meth c s₁ B hml hP _
    have hh0 : s₁.heap = s.heap := by rw [B.state]; rfl
    obtain ⟨t, a1, o, b1, b2, b3⟩ := body p e s m args below meth c s₁ B hml hP s₁ hh0 (Stand.of_body B)
    exact ⟨t, o, a1, b1, b2, b3⟩
/-! ===== END ===== -/
end
section
/-! ===== BEGIN printed: names, fields, word lists, decode rows ===== -/
def RX0 : String := "ChoirPlanner$Piece"
def TX0 : u_T := fun k => match k with
  | 0 => ("ChoirPlanner$Piece", "tones", "[I", true)
  | 1 => ("ChoirPlanner$Piece", "practice", "[I", true)
  | 2 => ("ChoirPlanner$Piece", "moveFaults", "[I", true)
  | 3 => ("ChoirPlanner$Piece", "size", "I", false)
  | _ => ("ChoirPlanner$Piece", "seconds", "I", false)
def tyX0 : Nat → FieldType := fun k => match k with
  | 0 => .array .int
  | 1 => .array .int
  | 2 => .array .int
  | 3 => .int
  | _ => .int
abbrev wsX00 : List Cond := u_ws RX0 TX0 5
theorem nmX0 : ∀ a, a < 5 → ∀ b, b < 5 → a ≠ b → (TX0 a).2.1 ≠ (TX0 b).2.1 := by decide +kernel
theorem tyX0_ok : ∀ k, k < 5 → parseFieldDescriptor (TX0 k).2.2.1 = some (tyX0 k) := by decide +kernel
abbrev cX0_init : ByteArray := prog_2_method_1_code
def yX0_init : MethodName := ⟨RX0, "<init>", "()V"⟩
abbrev cX0_isEmpty : ByteArray := prog_2_method_2_code
def yX0_isEmpty : MethodName := ⟨RX0, "isEmpty", "()Z"⟩
abbrev cX0_isFull : ByteArray := prog_2_method_3_code
def yX0_isFull : MethodName := ⟨RX0, "isFull", "()Z"⟩
abbrev cX0_has : ByteArray := prog_2_method_4_code
def yX0_has : MethodName := ⟨RX0, "has", "(I)Z"⟩
abbrev cX0_isLast : ByteArray := prog_2_method_5_code
def yX0_isLast : MethodName := ⟨RX0, "isLast", "(I)Z"⟩
abbrev cX0_length : ByteArray := prog_2_method_6_code
def yX0_length : MethodName := ⟨RX0, "length", "()I"⟩
abbrev cX0_putLength : ByteArray := prog_2_method_7_code
def yX0_putLength : MethodName := ⟨RX0, "putLength", "(I)V"⟩
abbrev cX0_append : ByteArray := prog_2_method_8_code
def yX0_append : MethodName := ⟨RX0, "append", "(IIII)I"⟩
abbrev cX0_toneAt : ByteArray := prog_2_method_9_code
def yX0_toneAt : MethodName := ⟨RX0, "toneAt", "(II)I"⟩
abbrev cX0_putTone : ByteArray := prog_2_method_10_code
def yX0_putTone : MethodName := ⟨RX0, "putTone", "(III)V"⟩
abbrev cX0_ceiling : ByteArray := prog_2_method_11_code
def yX0_ceiling : MethodName := ⟨RX0, "ceiling", "(II)I"⟩
abbrev cX0_floor : ByteArray := prog_2_method_12_code
def yX0_floor : MethodName := ⟨RX0, "floor", "(II)I"⟩
abbrev cX0_lowestTone : ByteArray := prog_2_method_13_code
def yX0_lowestTone : MethodName := ⟨RX0, "lowestTone", "(I)I"⟩
abbrev cX0_highestTone : ByteArray := prog_2_method_14_code
def yX0_highestTone : MethodName := ⟨RX0, "highestTone", "(I)I"⟩
abbrev cX0_faultsInto : ByteArray := prog_2_method_15_code
def yX0_faultsInto : MethodName := ⟨RX0, "faultsInto", "(I)I"⟩
abbrev cX0_faultSum : ByteArray := prog_2_method_16_code
def yX0_faultSum : MethodName := ⟨RX0, "faultSum", "()I"⟩
abbrev cX0_leastFaultSum : ByteArray := prog_2_method_17_code
def yX0_leastFaultSum : MethodName := ⟨RX0, "leastFaultSum", "(II)I"⟩
abbrev cX0_weaknessOf : ByteArray := prog_2_method_18_code
def yX0_weaknessOf : MethodName := ⟨RX0, "weaknessOf", "(I)I"⟩
abbrev cX0_weaknessSum : ByteArray := prog_2_method_19_code
def yX0_weaknessSum : MethodName := ⟨RX0, "weaknessSum", "()I"⟩
abbrev cX0_weakestChord : ByteArray := prog_2_method_20_code
def yX0_weakestChord : MethodName := ⟨RX0, "weakestChord", "()I"⟩
abbrev cX0_practiseWeakest : ByteArray := prog_2_method_21_code
def yX0_practiseWeakest : MethodName := ⟨RX0, "practiseWeakest", "()V"⟩
abbrev cX0_countMoveFaults : ByteArray := prog_2_method_22_code
def yX0_countMoveFaults : MethodName := ⟨RX0, "countMoveFaults", "(I)V"⟩
abbrev cX0_stepInto : ByteArray := prog_2_method_23_code
def yX0_stepInto : MethodName := ⟨RX0, "stepInto", "(II)I"⟩
abbrev cX0_isParallel : ByteArray := prog_2_method_24_code
def yX0_isParallel : MethodName := ⟨RX0, "isParallel", "(III)Z"⟩
abbrev cX0_isTold : ByteArray := prog_2_method_25_code
def yX0_isTold : MethodName := ⟨RX0, "isTold", "(I)Z"⟩
def RX1 : String := "ChoirPlanner$Roster"
def TX1 : u_T := fun k => match k with
  | 0 => ("ChoirPlanner$Roster", "voices", "[I", true)
  | 1 => ("ChoirPlanner$Roster", "lowest", "[I", true)
  | 2 => ("ChoirPlanner$Roster", "highest", "[I", true)
  | 3 => ("ChoirPlanner$Roster", "away", "[I", true)
  | _ => ("ChoirPlanner$Roster", "size", "I", false)
def tyX1 : Nat → FieldType := fun k => match k with
  | 0 => .array .int
  | 1 => .array .int
  | 2 => .array .int
  | 3 => .array .int
  | _ => .int
abbrev wsX10 : List Cond := u_ws RX1 TX1 5
theorem nmX1 : ∀ a, a < 5 → ∀ b, b < 5 → a ≠ b → (TX1 a).2.1 ≠ (TX1 b).2.1 := by decide +kernel
theorem tyX1_ok : ∀ k, k < 5 → parseFieldDescriptor (TX1 k).2.2.1 = some (tyX1 k) := by decide +kernel
abbrev cX1_init : ByteArray := prog_3_method_1_code
def yX1_init : MethodName := ⟨RX1, "<init>", "()V"⟩
abbrev cX1_isFull : ByteArray := prog_3_method_2_code
def yX1_isFull : MethodName := ⟨RX1, "isFull", "()Z"⟩
abbrev cX1_has : ByteArray := prog_3_method_3_code
def yX1_has : MethodName := ⟨RX1, "has", "(I)Z"⟩
abbrev cX1_add : ByteArray := prog_3_method_4_code
def yX1_add : MethodName := ⟨RX1, "add", "(III)I"⟩
abbrev cX1_replaceVoice : ByteArray := prog_3_method_5_code
def yX1_replaceVoice : MethodName := ⟨RX1, "replaceVoice", "(II)I"⟩
abbrev cX1_isThere : ByteArray := prog_3_method_6_code
def yX1_isThere : MethodName := ⟨RX1, "isThere", "(II)Z"⟩
abbrev cX1_putThere : ByteArray := prog_3_method_7_code
def yX1_putThere : MethodName := ⟨RX1, "putThere", "(IIZ)V"⟩
abbrev cX1_firstTone : ByteArray := prog_3_method_8_code
def yX1_firstTone : MethodName := ⟨RX1, "firstTone", "(II)I"⟩
abbrev cX1_lastTone : ByteArray := prog_3_method_9_code
def yX1_lastTone : MethodName := ⟨RX1, "lastTone", "(II)I"⟩
abbrev cX1_countMissed : ByteArray := prog_3_method_10_code
def yX1_countMissed : MethodName := ⟨RX1, "countMissed", "(I)I"⟩
abbrev cX1_sings : ByteArray := prog_3_method_11_code
def yX1_sings : MethodName := ⟨RX1, "sings", "(III)Z"⟩
def RX2 : String := "ChoirPlanner"
def TX2 : u_T := fun k => match k with
  | 0 => ("ChoirPlanner", "roster", "LChoirPlanner$Roster;", true)
  | 1 => ("ChoirPlanner", "pieces", "[LChoirPlanner$Piece;", true)
  | 2 => ("ChoirPlanner", "pieceCount", "I", false)
  | _ => ("ChoirPlanner", "draft", "LChoirPlanner$Piece;", false)
def tyX2 : Nat → FieldType := fun k => match k with
  | 0 => .object "ChoirPlanner$Roster"
  | 1 => .array (.object "ChoirPlanner$Piece")
  | 2 => .int
  | _ => .object "ChoirPlanner$Piece"
abbrev wsX20 : List Cond := u_ws RX2 TX2 4
theorem nmX2 : ∀ a, a < 4 → ∀ b, b < 4 → a ≠ b → (TX2 a).2.1 ≠ (TX2 b).2.1 := by decide +kernel
theorem tyX2_ok : ∀ k, k < 4 → parseFieldDescriptor (TX2 k).2.2.1 = some (tyX2 k) := by decide +kernel
abbrev cX2_init : ByteArray := prog_1_method_1_code
def yX2_init : MethodName := ⟨RX2, "<init>", "()V"⟩
abbrev cX2_addSinger : ByteArray := prog_1_method_2_code
def yX2_addSinger : MethodName := ⟨RX2, "addSinger", "(III)I"⟩
abbrev cX2_tell : ByteArray := prog_1_method_3_code
def yX2_tell : MethodName := ⟨RX2, "tell", "(IIZ)Z"⟩
abbrev cX2_change : ByteArray := prog_1_method_4_code
def yX2_change : MethodName := ⟨RX2, "change", "(II)I"⟩
abbrev cX2_range : ByteArray := prog_1_method_5_code
def yX2_range : MethodName := ⟨RX2, "range", "(II)I"⟩
abbrev cX2_chord : ByteArray := prog_1_method_6_code
def yX2_chord : MethodName := ⟨RX2, "chord", "(IIII)I"⟩
abbrev cX2_addPiece : ByteArray := prog_1_method_7_code
def yX2_addPiece : MethodName := ⟨RX2, "addPiece", "(I)I"⟩
abbrev cX2_setTone : ByteArray := prog_1_method_8_code
def yX2_setTone : MethodName := ⟨RX2, "setTone", "(IIII)I"⟩
abbrev cX2_faultsAt : ByteArray := prog_1_method_9_code
def yX2_faultsAt : MethodName := ⟨RX2, "faultsAt", "(II)I"⟩
abbrev cX2_faults : ByteArray := prog_1_method_10_code
def yX2_faults : MethodName := ⟨RX2, "faults", "(I)I"⟩
abbrev cX2_leastFaults : ByteArray := prog_1_method_11_code
def yX2_leastFaults : MethodName := ⟨RX2, "leastFaults", "(III)I"⟩
abbrev cX2_shift : ByteArray := prog_1_method_12_code
def yX2_shift : MethodName := ⟨RX2, "shift", "(II)I"⟩
abbrev cX2_dates : ByteArray := prog_1_method_13_code
def yX2_dates : MethodName := ⟨RX2, "dates", "(I)I"⟩
abbrev cX2_missed : ByteArray := prog_1_method_14_code
def yX2_missed : MethodName := ⟨RX2, "missed", "(I)I"⟩
abbrev cX2_programme : ByteArray := prog_1_method_15_code
def yX2_programme : MethodName := ⟨RX2, "programme", "(II)I"⟩
abbrev cX2_duration : ByteArray := prog_1_method_16_code
def yX2_duration : MethodName := ⟨RX2, "duration", "(II)I"⟩
abbrev cX2_rehearse : ByteArray := prog_1_method_17_code
def yX2_rehearse : MethodName := ⟨RX2, "rehearse", "(II)I"⟩
abbrev cX2_weakness : ByteArray := prog_1_method_18_code
def yX2_weakness : MethodName := ⟨RX2, "weakness", "(II)I"⟩
abbrev cX2_weakest : ByteArray := prog_1_method_19_code
def yX2_weakest : MethodName := ⟨RX2, "weakest", "(I)I"⟩
abbrev cX2_checkVoice : ByteArray := prog_1_method_20_code
def yX2_checkVoice : MethodName := ⟨RX2, "checkVoice", "(I)V"⟩
abbrev cX2_checkTone : ByteArray := prog_1_method_21_code
def yX2_checkTone : MethodName := ⟨RX2, "checkTone", "(II)V"⟩
abbrev cX2_checkDate : ByteArray := prog_1_method_22_code
def yX2_checkDate : MethodName := ⟨RX2, "checkDate", "(I)V"⟩
abbrev cX2_checkTime : ByteArray := prog_1_method_23_code
def yX2_checkTime : MethodName := ⟨RX2, "checkTime", "(I)V"⟩
abbrev cX2_checkSinger : ByteArray := prog_1_method_24_code
def yX2_checkSinger : MethodName := ⟨RX2, "checkSinger", "(I)V"⟩
abbrev cX2_checkChord : ByteArray := prog_1_method_25_code
def yX2_checkChord : MethodName := ⟨RX2, "checkChord", "(LChoirPlanner$Piece;I)V"⟩
abbrev cX2_pieceAt : ByteArray := prog_1_method_26_code
def yX2_pieceAt : MethodName := ⟨RX2, "pieceAt", "(I)LChoirPlanner$Piece;"⟩
abbrev cX2_nearestShift : ByteArray := prog_1_method_27_code
def yX2_nearestShift : MethodName := ⟨RX2, "nearestShift", "(LChoirPlanner$Piece;I)I"⟩
abbrev cX2_bestSet : ByteArray := prog_1_method_28_code
def yX2_bestSet : MethodName := ⟨RX2, "bestSet", "(II)I"⟩
abbrev cX2_singableSet : ByteArray := prog_1_method_29_code
def yX2_singableSet : MethodName := ⟨RX2, "singableSet", "(I)I"⟩
abbrev cX2_lengthOf : ByteArray := prog_1_method_30_code
def yX2_lengthOf : MethodName := ⟨RX2, "lengthOf", "(I)I"⟩
abbrev cX2_isBetter : ByteArray := prog_1_method_31_code
def yX2_isBetter : MethodName := ⟨RX2, "isBetter", "(II)Z"⟩
def RX3 : String := "ChoirPlannerModel"
def TX3 : u_T := fun k => match k with
  | 0 => ("ChoirPlannerModel", "refusal", "I", false)
  | 1 => ("ChoirPlannerModel", "singers", "I", false)
  | 2 => ("ChoirPlannerModel", "voiceOf", "[I", true)
  | 3 => ("ChoirPlannerModel", "lows", "[I", true)
  | 4 => ("ChoirPlannerModel", "highs", "[I", true)
  | 5 => ("ChoirPlannerModel", "away", "[I", true)
  | 6 => ("ChoirPlannerModel", "pieces", "I", false)
  | 7 => ("ChoirPlannerModel", "tones", "[I", true)
  | 8 => ("ChoirPlannerModel", "chords", "[I", true)
  | 9 => ("ChoirPlannerModel", "lengths", "[I", true)
  | _ => ("ChoirPlannerModel", "practice", "[I", true)
def tyX3 : Nat → FieldType := fun k => match k with
  | 0 => .int
  | 1 => .int
  | 2 => .array .int
  | 3 => .array .int
  | 4 => .array .int
  | 5 => .array .int
  | 6 => .int
  | 7 => .array .int
  | 8 => .array .int
  | 9 => .array .int
  | _ => .array .int
abbrev wsX30 : List Cond := u_ws RX3 TX3 11
theorem nmX3 : ∀ a, a < 11 → ∀ b, b < 11 → a ≠ b → (TX3 a).2.1 ≠ (TX3 b).2.1 := by decide +kernel
theorem tyX3_ok : ∀ k, k < 11 → parseFieldDescriptor (TX3 k).2.2.1 = some (tyX3 k) := by decide +kernel
abbrev cX3_init : ByteArray := prog_5_method_1_code
def yX3_init : MethodName := ⟨RX3, "<init>", "()V"⟩
abbrev cX3_thrown : ByteArray := prog_5_method_2_code
def yX3_thrown : MethodName := ⟨RX3, "thrown", "()I"⟩
abbrev cX3_refused : ByteArray := prog_5_method_3_code
def yX3_refused : MethodName := ⟨RX3, "refused", "(I)Z"⟩
abbrev cX3_in : ByteArray := prog_5_method_4_code
def yX3_in : MethodName := ⟨RX3, "in", "(III)Z"⟩
abbrev cX3_isVoice : ByteArray := prog_5_method_5_code
def yX3_isVoice : MethodName := ⟨RX3, "isVoice", "(I)Z"⟩
abbrev cX3_isDate : ByteArray := prog_5_method_6_code
def yX3_isDate : MethodName := ⟨RX3, "isDate", "(I)Z"⟩
abbrev cX3_isTone : ByteArray := prog_5_method_7_code
def yX3_isTone : MethodName := ⟨RX3, "isTone", "(I)Z"⟩
abbrev cX3_isSinger : ByteArray := prog_5_method_8_code
def yX3_isSinger : MethodName := ⟨RX3, "isSinger", "(I)Z"⟩
abbrev cX3_isPiece : ByteArray := prog_5_method_9_code
def yX3_isPiece : MethodName := ⟨RX3, "isPiece", "(I)Z"⟩
abbrev cX3_isChord : ByteArray := prog_5_method_10_code
def yX3_isChord : MethodName := ⟨RX3, "isChord", "(II)Z"⟩
abbrev cX3_addSinger : ByteArray := prog_5_method_11_code
def yX3_addSinger : MethodName := ⟨RX3, "addSinger", "(III)I"⟩
abbrev cX3_isThere : ByteArray := prog_5_method_12_code
def yX3_isThere : MethodName := ⟨RX3, "isThere", "(II)Z"⟩
abbrev cX3_tell : ByteArray := prog_5_method_13_code
def yX3_tell : MethodName := ⟨RX3, "tell", "(IIZ)Z"⟩
abbrev cX3_change : ByteArray := prog_5_method_14_code
def yX3_change : MethodName := ⟨RX3, "change", "(II)I"⟩
abbrev cX3_firstOf : ByteArray := prog_5_method_15_code
def yX3_firstOf : MethodName := ⟨RX3, "firstOf", "(II)I"⟩
abbrev cX3_lastOf : ByteArray := prog_5_method_16_code
def yX3_lastOf : MethodName := ⟨RX3, "lastOf", "(II)I"⟩
abbrev cX3_range : ByteArray := prog_5_method_17_code
def yX3_range : MethodName := ⟨RX3, "range", "(II)I"⟩
abbrev cX3_chord : ByteArray := prog_5_method_18_code
def yX3_chord : MethodName := ⟨RX3, "chord", "(IIII)I"⟩
abbrev cX3_addPiece : ByteArray := prog_5_method_19_code
def yX3_addPiece : MethodName := ⟨RX3, "addPiece", "(I)I"⟩
abbrev cX3_toneAt : ByteArray := prog_5_method_20_code
def yX3_toneAt : MethodName := ⟨RX3, "toneAt", "(III)I"⟩
abbrev cX3_floorOf : ByteArray := prog_5_method_21_code
def yX3_floorOf : MethodName := ⟨RX3, "floorOf", "(III)I"⟩
abbrev cX3_roofOf : ByteArray := prog_5_method_22_code
def yX3_roofOf : MethodName := ⟨RX3, "roofOf", "(III)I"⟩
abbrev cX3_setTone : ByteArray := prog_5_method_23_code
def yX3_setTone : MethodName := ⟨RX3, "setTone", "(IIII)I"⟩
abbrev cX3_isParallel : ByteArray := prog_5_method_24_code
def yX3_isParallel : MethodName := ⟨RX3, "isParallel", "(IIII)Z"⟩
abbrev cX3_faultsOf : ByteArray := prog_5_method_25_code
def yX3_faultsOf : MethodName := ⟨RX3, "faultsOf", "(II)I"⟩
abbrev cX3_faultsAt : ByteArray := prog_5_method_26_code
def yX3_faultsAt : MethodName := ⟨RX3, "faultsAt", "(II)I"⟩
abbrev cX3_allFaults : ByteArray := prog_5_method_27_code
def yX3_allFaults : MethodName := ⟨RX3, "allFaults", "(I)I"⟩
abbrev cX3_faults : ByteArray := prog_5_method_28_code
def yX3_faults : MethodName := ⟨RX3, "faults", "(I)I"⟩
abbrev cX3_leastFaults : ByteArray := prog_5_method_29_code
def yX3_leastFaults : MethodName := ⟨RX3, "leastFaults", "(III)I"⟩
abbrev cX3_fits : ByteArray := prog_5_method_30_code
def yX3_fits : MethodName := ⟨RX3, "fits", "(III)Z"⟩
abbrev cX3_shiftOf : ByteArray := prog_5_method_31_code
def yX3_shiftOf : MethodName := ⟨RX3, "shiftOf", "(II)I"⟩
abbrev cX3_shift : ByteArray := prog_5_method_32_code
def yX3_shift : MethodName := ⟨RX3, "shift", "(II)I"⟩
abbrev cX3_dates : ByteArray := prog_5_method_33_code
def yX3_dates : MethodName := ⟨RX3, "dates", "(I)I"⟩
abbrev cX3_missed : ByteArray := prog_5_method_34_code
def yX3_missed : MethodName := ⟨RX3, "missed", "(I)I"⟩
abbrev cX3_lengthOf : ByteArray := prog_5_method_35_code
def yX3_lengthOf : MethodName := ⟨RX3, "lengthOf", "(I)I"⟩
abbrev cX3_bits : ByteArray := prog_5_method_36_code
def yX3_bits : MethodName := ⟨RX3, "bits", "(I)I"⟩
abbrev cX3_isBetter : ByteArray := prog_5_method_37_code
def yX3_isBetter : MethodName := ⟨RX3, "isBetter", "(II)Z"⟩
abbrev cX3_planned : ByteArray := prog_5_method_38_code
def yX3_planned : MethodName := ⟨RX3, "planned", "(II)I"⟩
abbrev cX3_noDate : ByteArray := prog_5_method_39_code
def yX3_noDate : MethodName := ⟨RX3, "noDate", "(II)Z"⟩
abbrev cX3_programme : ByteArray := prog_5_method_40_code
def yX3_programme : MethodName := ⟨RX3, "programme", "(II)I"⟩
abbrev cX3_duration : ByteArray := prog_5_method_41_code
def yX3_duration : MethodName := ⟨RX3, "duration", "(II)I"⟩
abbrev cX3_weaknessOf : ByteArray := prog_5_method_42_code
def yX3_weaknessOf : MethodName := ⟨RX3, "weaknessOf", "(II)I"⟩
abbrev cX3_weakestOf : ByteArray := prog_5_method_43_code
def yX3_weakestOf : MethodName := ⟨RX3, "weakestOf", "(I)I"⟩
abbrev cX3_rehearse : ByteArray := prog_5_method_44_code
def yX3_rehearse : MethodName := ⟨RX3, "rehearse", "(II)I"⟩
abbrev cX3_weakness : ByteArray := prog_5_method_45_code
def yX3_weakness : MethodName := ⟨RX3, "weakness", "(II)I"⟩
abbrev cX3_weakest : ByteArray := prog_5_method_46_code
def yX3_weakest : MethodName := ⟨RX3, "weakest", "(I)I"⟩
def RJ6 : String := "java/lang/Integer"
def TJ6 : u_T := fun k => match k with
  | _ => ("", "", "", false)
def tyJ6 : Nat → FieldType := fun k => match k with
  | _ => .int
abbrev wsJ60 : List Cond := u_ws RJ6 TJ6 0
theorem nmJ6 : ∀ a, a < 0 → ∀ b, b < 0 → a ≠ b → (TJ6 a).2.1 ≠ (TJ6 b).2.1 := by decide +kernel
theorem tyJ6_ok : ∀ k, k < 0 → parseFieldDescriptor (TJ6 k).2.2.1 = some (tyJ6 k) := by decide +kernel
abbrev cJ6_bitCount_0f7a4 : ByteArray := prog_10_method_49_code
def yJ6_bitCount_0f7a4 : MethodName := ⟨RJ6, "bitCount", "(I)I"⟩
def RJ9 : String := "java/lang/Math"
def TJ9 : u_T := fun k => match k with
  | _ => ("", "", "", false)
def tyJ9 : Nat → FieldType := fun k => match k with
  | _ => .int
abbrev wsJ90 : List Cond := u_ws RJ9 TJ9 0
theorem nmJ9 : ∀ a, a < 0 → ∀ b, b < 0 → a ≠ b → (TJ9 a).2.1 ≠ (TJ9 b).2.1 := by decide +kernel
theorem tyJ9_ok : ∀ k, k < 0 → parseFieldDescriptor (TJ9 k).2.2.1 = some (tyJ9 k) := by decide +kernel
abbrev cJ9_abs_0f7a4 : ByteArray := prog_11_method_59_code
def yJ9_abs_0f7a4 : MethodName := ⟨RJ9, "abs", "(I)I"⟩
abbrev cJ9_max_7cf53 : ByteArray := prog_11_method_65_code
def yJ9_max_7cf53 : MethodName := ⟨RJ9, "max", "(II)I"⟩
abbrev cJ9_min_7cf53 : ByteArray := prog_11_method_69_code
def yJ9_min_7cf53 : MethodName := ⟨RJ9, "min", "(II)I"⟩
def RJ0 : String := "java/lang/String"
def TJ0 : u_T := fun k => match k with
  | _ => ("", "", "", false)
def tyJ0 : Nat → FieldType := fun k => match k with
  | _ => .int
abbrev wsJ00 : List Cond := u_ws RJ0 TJ0 0
theorem nmJ0 : ∀ a, a < 0 → ∀ b, b < 0 → a ≠ b → (TJ0 a).2.1 ≠ (TJ0 b).2.1 := by decide +kernel
theorem tyJ0_ok : ∀ k, k < 0 → parseFieldDescriptor (TJ0 k).2.2.1 = some (tyJ0 k) := by decide +kernel
def RL : String := "ChoirPlannerLaw"
abbrev cL_addSinger : ByteArray := method_3_code
def yL_addSinger : MethodName := ⟨RL, "addSinger", "(LChoirPlanner;III[J)I"⟩
abbrev cL_tell : ByteArray := method_4_code
def yL_tell : MethodName := ⟨RL, "tell", "(LChoirPlanner;IIZ[J)I"⟩
abbrev cL_change : ByteArray := method_5_code
def yL_change : MethodName := ⟨RL, "change", "(LChoirPlanner;II[J)I"⟩
abbrev cL_range : ByteArray := method_6_code
def yL_range : MethodName := ⟨RL, "range", "(LChoirPlanner;II[J)I"⟩
abbrev cL_chord : ByteArray := method_7_code
def yL_chord : MethodName := ⟨RL, "chord", "(LChoirPlanner;IIII[J)I"⟩
abbrev cL_addPiece : ByteArray := method_8_code
def yL_addPiece : MethodName := ⟨RL, "addPiece", "(LChoirPlanner;I[J)I"⟩
abbrev cL_setTone : ByteArray := method_9_code
def yL_setTone : MethodName := ⟨RL, "setTone", "(LChoirPlanner;IIII[J)I"⟩
abbrev cL_faultsAt : ByteArray := method_10_code
def yL_faultsAt : MethodName := ⟨RL, "faultsAt", "(LChoirPlanner;II[J)I"⟩
abbrev cL_faults : ByteArray := method_11_code
def yL_faults : MethodName := ⟨RL, "faults", "(LChoirPlanner;I[J)I"⟩
abbrev cL_leastFaults : ByteArray := method_12_code
def yL_leastFaults : MethodName := ⟨RL, "leastFaults", "(LChoirPlanner;III[J)I"⟩
abbrev cL_shift : ByteArray := method_13_code
def yL_shift : MethodName := ⟨RL, "shift", "(LChoirPlanner;II[J)I"⟩
abbrev cL_dates : ByteArray := method_14_code
def yL_dates : MethodName := ⟨RL, "dates", "(LChoirPlanner;I[J)I"⟩
abbrev cL_missed : ByteArray := method_15_code
def yL_missed : MethodName := ⟨RL, "missed", "(LChoirPlanner;I[J)I"⟩
abbrev cL_programme : ByteArray := method_16_code
def yL_programme : MethodName := ⟨RL, "programme", "(LChoirPlanner;II[J)I"⟩
abbrev cL_duration : ByteArray := method_17_code
def yL_duration : MethodName := ⟨RL, "duration", "(LChoirPlanner;II[J)I"⟩
abbrev cL_rehearse : ByteArray := method_18_code
def yL_rehearse : MethodName := ⟨RL, "rehearse", "(LChoirPlanner;II[J)I"⟩
abbrev cL_weakness : ByteArray := method_19_code
def yL_weakness : MethodName := ⟨RL, "weakness", "(LChoirPlanner;II[J)I"⟩
abbrev cL_weakest : ByteArray := method_20_code
def yL_weakest : MethodName := ⟨RL, "weakest", "(LChoirPlanner;I[J)I"⟩
abbrev cL_law : ByteArray := code
def yL_law : MethodName := ⟨RL, "law", "([I)Z"⟩
def wsX0_init : List Cond := .code yX0_init cX0_init 1 none :: ([.methodLink RX0 3 objectInit, .instanceMethod objectInit, .code objectInit ⟨#[0xb1]⟩ 1 none, .arrayClass .int, .fieldLink RX0 9 "ChoirPlanner$Piece" "tones" "[I", .fieldLink RX0 15 "ChoirPlanner$Piece" "practice" "[I", .fieldLink RX0 18 "ChoirPlanner$Piece" "moveFaults" "[I"] ++ wsX00)
def wsX0_isEmpty : List Cond := .code yX0_isEmpty cX0_isEmpty 1 (some .boolean) :: ([.fieldLink RX0 21 "ChoirPlanner$Piece" "size" "I"] ++ wsX00)
def wsX0_isFull : List Cond := .code yX0_isFull cX0_isFull 1 (some .boolean) :: ([.fieldLink RX0 21 "ChoirPlanner$Piece" "size" "I"] ++ wsX00)
def wsX0_has : List Cond := .code yX0_has cX0_has 2 (some .boolean) :: ([.fieldLink RX0 21 "ChoirPlanner$Piece" "size" "I"] ++ wsX00)
def wsX0_isLast : List Cond := .code yX0_isLast cX0_isLast 2 (some .boolean) :: ([.fieldLink RX0 21 "ChoirPlanner$Piece" "size" "I"] ++ wsX00)
def wsX0_length : List Cond := .code yX0_length cX0_length 1 (some .int) :: ([.fieldLink RX0 25 "ChoirPlanner$Piece" "seconds" "I"] ++ wsX00)
def wsX0_putLength : List Cond := .code yX0_putLength cX0_putLength 2 none :: ([.fieldLink RX0 25 "ChoirPlanner$Piece" "seconds" "I"] ++ wsX00)
def wsX0_toneAt : List Cond := .code yX0_toneAt cX0_toneAt 3 (some .int) :: ([.fieldLink RX0 9 "ChoirPlanner$Piece" "tones" "[I"] ++ wsX00)
def wsX0_stepInto : List Cond := .code yX0_stepInto cX0_stepInto 3 (some .int) :: ([.methodLink RX0 32 yX0_toneAt, .instanceMethod yX0_toneAt, .selects RX0 yX0_toneAt yX0_toneAt, .initialized RX0, .code yX0_toneAt cX0_toneAt 3 (some .int), .fieldLink RX0 9 "ChoirPlanner$Piece" "tones" "[I"] ++ wsX00)
def wsX0_isTold : List Cond := .code yX0_isTold cX0_isTold 2 (some .boolean) :: ([])
def wsX0_isParallel : List Cond := .code yX0_isParallel cX0_isParallel 5 (some .boolean) :: ([.methodLink RX0 65 yX0_stepInto, .instanceMethod yX0_stepInto, .selects RX0 yX0_stepInto yX0_stepInto, .initialized RX0, .code yX0_stepInto cX0_stepInto 3 (some .int), .methodLink RX0 32 yX0_toneAt, .instanceMethod yX0_toneAt, .selects RX0 yX0_toneAt yX0_toneAt, .code yX0_toneAt cX0_toneAt 3 (some .int), .fieldLink RX0 9 "ChoirPlanner$Piece" "tones" "[I", .methodLink RX0 75 yX0_isTold, .static yX0_isTold, .code yX0_isTold cX0_isTold 2 (some .boolean)] ++ wsX00)
def wsX0_countMoveFaults : List Cond := .code yX0_countMoveFaults cX0_countMoveFaults 5 none :: ([.fieldLink RX0 21 "ChoirPlanner$Piece" "size" "I", .methodLink RX0 68 Lib.Math.abs.name, .static Lib.Math.abs.name, .initialized "java/lang/Math", .code Lib.Math.abs.name Lib.Math.abs.code 1 (some .int), .fieldLink RX0 18 "ChoirPlanner$Piece" "moveFaults" "[I", .methodLink RX0 65 yX0_stepInto, .instanceMethod yX0_stepInto, .selects RX0 yX0_stepInto yX0_stepInto, .initialized RX0, .code yX0_stepInto cX0_stepInto 3 (some .int), .methodLink RX0 32 yX0_toneAt, .instanceMethod yX0_toneAt, .selects RX0 yX0_toneAt yX0_toneAt, .code yX0_toneAt cX0_toneAt 3 (some .int), .fieldLink RX0 9 "ChoirPlanner$Piece" "tones" "[I", .methodLink RX0 71 yX0_isParallel, .instanceMethod yX0_isParallel, .selects RX0 yX0_isParallel yX0_isParallel, .code yX0_isParallel cX0_isParallel 5 (some .boolean), .methodLink RX0 75 yX0_isTold, .static yX0_isTold, .code yX0_isTold cX0_isTold 2 (some .boolean)] ++ wsX00)
def wsX0_append_r1 : List Cond := [Cond.fieldLink RX0 21 "ChoirPlanner$Piece" "size" "I", Cond.fieldLink RX0 9 "ChoirPlanner$Piece" "tones" "[I", Cond.methodLink RX0 28 yX0_countMoveFaults, Cond.instanceMethod yX0_countMoveFaults, Cond.selects RX0 yX0_countMoveFaults yX0_countMoveFaults, Cond.initialized RX0, Cond.code yX0_countMoveFaults cX0_countMoveFaults 5 none, Cond.methodLink RX0 68 Lib.Math.abs.name, Cond.static Lib.Math.abs.name, Cond.initialized "java/lang/Math", Cond.code Lib.Math.abs.name Lib.Math.abs.code 1 (some .int), Cond.fieldLink RX0 18 "ChoirPlanner$Piece" "moveFaults" "[I", Cond.methodLink RX0 65 yX0_stepInto, Cond.instanceMethod yX0_stepInto, Cond.selects RX0 yX0_stepInto yX0_stepInto, Cond.code yX0_stepInto cX0_stepInto 3 (some .int), Cond.methodLink RX0 32 yX0_toneAt, Cond.instanceMethod yX0_toneAt, Cond.selects RX0 yX0_toneAt yX0_toneAt, Cond.code yX0_toneAt cX0_toneAt 3 (some .int), Cond.methodLink RX0 71 yX0_isParallel, Cond.instanceMethod yX0_isParallel, Cond.selects RX0 yX0_isParallel yX0_isParallel, Cond.code yX0_isParallel cX0_isParallel 5 (some .boolean)]
def wsX0_append_r2 : List Cond := [Cond.methodLink RX0 75 yX0_isTold, Cond.static yX0_isTold, Cond.code yX0_isTold cX0_isTold 2 (some .boolean)]
def wsX0_append : List Cond := .code yX0_append cX0_append 6 (some .int) :: ((wsX0_append_r1 ++ wsX0_append_r2) ++ wsX00)
def wsX0_putTone_r1 : List Cond := [Cond.fieldLink RX0 9 "ChoirPlanner$Piece" "tones" "[I", Cond.methodLink RX0 28 yX0_countMoveFaults, Cond.instanceMethod yX0_countMoveFaults, Cond.selects RX0 yX0_countMoveFaults yX0_countMoveFaults, Cond.initialized RX0, Cond.code yX0_countMoveFaults cX0_countMoveFaults 5 none, Cond.fieldLink RX0 21 "ChoirPlanner$Piece" "size" "I", Cond.methodLink RX0 68 Lib.Math.abs.name, Cond.static Lib.Math.abs.name, Cond.initialized "java/lang/Math", Cond.code Lib.Math.abs.name Lib.Math.abs.code 1 (some .int), Cond.fieldLink RX0 18 "ChoirPlanner$Piece" "moveFaults" "[I", Cond.methodLink RX0 65 yX0_stepInto, Cond.instanceMethod yX0_stepInto, Cond.selects RX0 yX0_stepInto yX0_stepInto, Cond.code yX0_stepInto cX0_stepInto 3 (some .int), Cond.methodLink RX0 32 yX0_toneAt, Cond.instanceMethod yX0_toneAt, Cond.selects RX0 yX0_toneAt yX0_toneAt, Cond.code yX0_toneAt cX0_toneAt 3 (some .int), Cond.methodLink RX0 71 yX0_isParallel, Cond.instanceMethod yX0_isParallel, Cond.selects RX0 yX0_isParallel yX0_isParallel, Cond.code yX0_isParallel cX0_isParallel 5 (some .boolean)]
def wsX0_putTone_r2 : List Cond := [Cond.methodLink RX0 75 yX0_isTold, Cond.static yX0_isTold, Cond.code yX0_isTold cX0_isTold 2 (some .boolean)]
def wsX0_putTone : List Cond := .code yX0_putTone cX0_putTone 4 none :: ((wsX0_putTone_r1 ++ wsX0_putTone_r2) ++ wsX00)
def wsX0_ceiling : List Cond := .code yX0_ceiling cX0_ceiling 3 (some .int) :: ([.methodLink RX0 32 yX0_toneAt, .instanceMethod yX0_toneAt, .selects RX0 yX0_toneAt yX0_toneAt, .initialized RX0, .code yX0_toneAt cX0_toneAt 3 (some .int), .fieldLink RX0 9 "ChoirPlanner$Piece" "tones" "[I"] ++ wsX00)
def wsX0_floor : List Cond := .code yX0_floor cX0_floor 3 (some .int) :: ([.methodLink RX0 32 yX0_toneAt, .instanceMethod yX0_toneAt, .selects RX0 yX0_toneAt yX0_toneAt, .initialized RX0, .code yX0_toneAt cX0_toneAt 3 (some .int), .fieldLink RX0 9 "ChoirPlanner$Piece" "tones" "[I"] ++ wsX00)
def wsX0_lowestTone : List Cond := .code yX0_lowestTone cX0_lowestTone 4 (some .int) :: ([.fieldLink RX0 21 "ChoirPlanner$Piece" "size" "I", .methodLink RX0 36 Lib.Math.min.name, .static Lib.Math.min.name, .initialized "java/lang/Math", .code Lib.Math.min.name Lib.Math.min.code 2 (some .int), .methodLink RX0 32 yX0_toneAt, .instanceMethod yX0_toneAt, .selects RX0 yX0_toneAt yX0_toneAt, .initialized RX0, .code yX0_toneAt cX0_toneAt 3 (some .int), .fieldLink RX0 9 "ChoirPlanner$Piece" "tones" "[I"] ++ wsX00)
def wsX0_highestTone : List Cond := .code yX0_highestTone cX0_highestTone 4 (some .int) :: ([.fieldLink RX0 21 "ChoirPlanner$Piece" "size" "I", .methodLink RX0 41 Lib.Math.max.name, .static Lib.Math.max.name, .initialized "java/lang/Math", .code Lib.Math.max.name Lib.Math.max.code 2 (some .int), .methodLink RX0 32 yX0_toneAt, .instanceMethod yX0_toneAt, .selects RX0 yX0_toneAt yX0_toneAt, .initialized RX0, .code yX0_toneAt cX0_toneAt 3 (some .int), .fieldLink RX0 9 "ChoirPlanner$Piece" "tones" "[I"] ++ wsX00)
def wsX0_faultsInto : List Cond := .code yX0_faultsInto cX0_faultsInto 2 (some .int) :: ([.fieldLink RX0 18 "ChoirPlanner$Piece" "moveFaults" "[I"] ++ wsX00)
def wsX0_faultSum : List Cond := .code yX0_faultSum cX0_faultSum 3 (some .int) :: ([.fieldLink RX0 21 "ChoirPlanner$Piece" "size" "I", .fieldLink RX0 18 "ChoirPlanner$Piece" "moveFaults" "[I"] ++ wsX00)
def wsX0_leastFaultSum_r1 : List Cond := [Cond.methodLink RX0 36 Lib.Math.min.name, Cond.static Lib.Math.min.name, Cond.initialized "java/lang/Math", Cond.code Lib.Math.min.name Lib.Math.min.code 2 (some .int), Cond.methodLink RX0 32 yX0_toneAt, Cond.instanceMethod yX0_toneAt, Cond.selects RX0 yX0_toneAt yX0_toneAt, Cond.initialized RX0, Cond.code yX0_toneAt cX0_toneAt 3 (some .int), Cond.fieldLink RX0 9 "ChoirPlanner$Piece" "tones" "[I", Cond.methodLink RX0 44 yX0_ceiling, Cond.instanceMethod yX0_ceiling, Cond.selects RX0 yX0_ceiling yX0_ceiling, Cond.code yX0_ceiling cX0_ceiling 3 (some .int), Cond.methodLink RX0 47 yX0_faultSum, Cond.instanceMethod yX0_faultSum, Cond.selects RX0 yX0_faultSum yX0_faultSum, Cond.code yX0_faultSum cX0_faultSum 3 (some .int), Cond.fieldLink RX0 21 "ChoirPlanner$Piece" "size" "I", Cond.fieldLink RX0 18 "ChoirPlanner$Piece" "moveFaults" "[I", Cond.methodLink RX0 51 yX0_floor, Cond.instanceMethod yX0_floor, Cond.selects RX0 yX0_floor yX0_floor, Cond.code yX0_floor cX0_floor 3 (some .int)]
def wsX0_leastFaultSum_r2 : List Cond := [Cond.methodLink RX0 54 yX0_putTone, Cond.instanceMethod yX0_putTone, Cond.selects RX0 yX0_putTone yX0_putTone, Cond.code yX0_putTone cX0_putTone 4 none, Cond.methodLink RX0 28 yX0_countMoveFaults, Cond.instanceMethod yX0_countMoveFaults, Cond.selects RX0 yX0_countMoveFaults yX0_countMoveFaults, Cond.code yX0_countMoveFaults cX0_countMoveFaults 5 none, Cond.methodLink RX0 68 Lib.Math.abs.name, Cond.static Lib.Math.abs.name, Cond.code Lib.Math.abs.name Lib.Math.abs.code 1 (some .int), Cond.methodLink RX0 65 yX0_stepInto, Cond.instanceMethod yX0_stepInto, Cond.selects RX0 yX0_stepInto yX0_stepInto, Cond.code yX0_stepInto cX0_stepInto 3 (some .int), Cond.methodLink RX0 71 yX0_isParallel, Cond.instanceMethod yX0_isParallel, Cond.selects RX0 yX0_isParallel yX0_isParallel, Cond.code yX0_isParallel cX0_isParallel 5 (some .boolean), Cond.methodLink RX0 75 yX0_isTold, Cond.static yX0_isTold, Cond.code yX0_isTold cX0_isTold 2 (some .boolean)]
def wsX0_leastFaultSum : List Cond := .code yX0_leastFaultSum cX0_leastFaultSum 7 (some .int) :: ((wsX0_leastFaultSum_r1 ++ wsX0_leastFaultSum_r2) ++ wsX00)
def wsX0_weaknessOf : List Cond := .code yX0_weaknessOf cX0_weaknessOf 2 (some .int) :: ([.fieldLink RX0 18 "ChoirPlanner$Piece" "moveFaults" "[I", .fieldLink RX0 15 "ChoirPlanner$Piece" "practice" "[I", .methodLink RX0 41 Lib.Math.max.name, .static Lib.Math.max.name, .initialized "java/lang/Math", .code Lib.Math.max.name Lib.Math.max.code 2 (some .int)] ++ wsX00)
def wsX0_weaknessSum : List Cond := .code yX0_weaknessSum cX0_weaknessSum 3 (some .int) :: ([.fieldLink RX0 21 "ChoirPlanner$Piece" "size" "I", .methodLink RX0 58 yX0_weaknessOf, .instanceMethod yX0_weaknessOf, .selects RX0 yX0_weaknessOf yX0_weaknessOf, .initialized RX0, .code yX0_weaknessOf cX0_weaknessOf 2 (some .int), .fieldLink RX0 18 "ChoirPlanner$Piece" "moveFaults" "[I", .fieldLink RX0 15 "ChoirPlanner$Piece" "practice" "[I", .methodLink RX0 41 Lib.Math.max.name, .static Lib.Math.max.name, .initialized "java/lang/Math", .code Lib.Math.max.name Lib.Math.max.code 2 (some .int)] ++ wsX00)
def wsX0_weakestChord : List Cond := .code yX0_weakestChord cX0_weakestChord 3 (some .int) :: ([.fieldLink RX0 21 "ChoirPlanner$Piece" "size" "I", .methodLink RX0 58 yX0_weaknessOf, .instanceMethod yX0_weaknessOf, .selects RX0 yX0_weaknessOf yX0_weaknessOf, .initialized RX0, .code yX0_weaknessOf cX0_weaknessOf 2 (some .int), .fieldLink RX0 18 "ChoirPlanner$Piece" "moveFaults" "[I", .fieldLink RX0 15 "ChoirPlanner$Piece" "practice" "[I", .methodLink RX0 41 Lib.Math.max.name, .static Lib.Math.max.name, .initialized "java/lang/Math", .code Lib.Math.max.name Lib.Math.max.code 2 (some .int)] ++ wsX00)
def wsX0_practiseWeakest : List Cond := .code yX0_practiseWeakest cX0_practiseWeakest 1 none :: ([.fieldLink RX0 15 "ChoirPlanner$Piece" "practice" "[I", .methodLink RX0 62 yX0_weakestChord, .instanceMethod yX0_weakestChord, .selects RX0 yX0_weakestChord yX0_weakestChord, .initialized RX0, .code yX0_weakestChord cX0_weakestChord 3 (some .int), .fieldLink RX0 21 "ChoirPlanner$Piece" "size" "I", .methodLink RX0 58 yX0_weaknessOf, .instanceMethod yX0_weaknessOf, .selects RX0 yX0_weaknessOf yX0_weaknessOf, .code yX0_weaknessOf cX0_weaknessOf 2 (some .int), .fieldLink RX0 18 "ChoirPlanner$Piece" "moveFaults" "[I", .methodLink RX0 41 Lib.Math.max.name, .static Lib.Math.max.name, .initialized "java/lang/Math", .code Lib.Math.max.name Lib.Math.max.code 2 (some .int)] ++ wsX00)
def wsX1_init : List Cond := .code yX1_init cX1_init 1 none :: ([.methodLink RX1 3 objectInit, .instanceMethod objectInit, .code objectInit ⟨#[0xb1]⟩ 1 none, .arrayClass .int, .fieldLink RX1 9 "ChoirPlanner$Roster" "voices" "[I", .fieldLink RX1 15 "ChoirPlanner$Roster" "lowest" "[I", .fieldLink RX1 18 "ChoirPlanner$Roster" "highest" "[I", .fieldLink RX1 21 "ChoirPlanner$Roster" "away" "[I"] ++ wsX10)
def wsX1_isFull : List Cond := .code yX1_isFull cX1_isFull 1 (some .boolean) :: ([.fieldLink RX1 24 "ChoirPlanner$Roster" "size" "I"] ++ wsX10)
def wsX1_has : List Cond := .code yX1_has cX1_has 2 (some .boolean) :: ([.fieldLink RX1 24 "ChoirPlanner$Roster" "size" "I"] ++ wsX10)
def wsX1_add : List Cond := .code yX1_add cX1_add 5 (some .int) :: ([.fieldLink RX1 24 "ChoirPlanner$Roster" "size" "I", .fieldLink RX1 9 "ChoirPlanner$Roster" "voices" "[I", .fieldLink RX1 15 "ChoirPlanner$Roster" "lowest" "[I", .fieldLink RX1 18 "ChoirPlanner$Roster" "highest" "[I"] ++ wsX10)
def wsX1_replaceVoice : List Cond := .code yX1_replaceVoice cX1_replaceVoice 4 (some .int) :: ([.fieldLink RX1 9 "ChoirPlanner$Roster" "voices" "[I"] ++ wsX10)
def wsX1_isThere : List Cond := .code yX1_isThere cX1_isThere 3 (some .boolean) :: ([.fieldLink RX1 21 "ChoirPlanner$Roster" "away" "[I"] ++ wsX10)
def wsX1_putThere : List Cond := .code yX1_putThere cX1_putThere 5 none :: ([.fieldLink RX1 21 "ChoirPlanner$Roster" "away" "[I"] ++ wsX10)
def wsX1_sings : List Cond := .code yX1_sings cX1_sings 4 (some .boolean) :: ([.fieldLink RX1 9 "ChoirPlanner$Roster" "voices" "[I", .methodLink RX1 41 yX1_isThere, .instanceMethod yX1_isThere, .selects RX1 yX1_isThere yX1_isThere, .initialized RX1, .code yX1_isThere cX1_isThere 3 (some .boolean), .fieldLink RX1 21 "ChoirPlanner$Roster" "away" "[I"] ++ wsX10)
def wsX1_firstTone : List Cond := .code yX1_firstTone cX1_firstTone 5 (some .int) :: ([.fieldLink RX1 24 "ChoirPlanner$Roster" "size" "I", .fieldLink RX1 15 "ChoirPlanner$Roster" "lowest" "[I", .methodLink RX1 32 Lib.Math.max.name, .static Lib.Math.max.name, .initialized "java/lang/Math", .code Lib.Math.max.name Lib.Math.max.code 2 (some .int), .methodLink RX1 28 yX1_sings, .instanceMethod yX1_sings, .selects RX1 yX1_sings yX1_sings, .initialized RX1, .code yX1_sings cX1_sings 4 (some .boolean), .fieldLink RX1 9 "ChoirPlanner$Roster" "voices" "[I", .methodLink RX1 41 yX1_isThere, .instanceMethod yX1_isThere, .selects RX1 yX1_isThere yX1_isThere, .code yX1_isThere cX1_isThere 3 (some .boolean), .fieldLink RX1 21 "ChoirPlanner$Roster" "away" "[I"] ++ wsX10)
def wsX1_lastTone : List Cond := .code yX1_lastTone cX1_lastTone 5 (some .int) :: ([.fieldLink RX1 24 "ChoirPlanner$Roster" "size" "I", .fieldLink RX1 18 "ChoirPlanner$Roster" "highest" "[I", .methodLink RX1 38 Lib.Math.min.name, .static Lib.Math.min.name, .initialized "java/lang/Math", .code Lib.Math.min.name Lib.Math.min.code 2 (some .int), .methodLink RX1 28 yX1_sings, .instanceMethod yX1_sings, .selects RX1 yX1_sings yX1_sings, .initialized RX1, .code yX1_sings cX1_sings 4 (some .boolean), .fieldLink RX1 9 "ChoirPlanner$Roster" "voices" "[I", .methodLink RX1 41 yX1_isThere, .instanceMethod yX1_isThere, .selects RX1 yX1_isThere yX1_isThere, .code yX1_isThere cX1_isThere 3 (some .boolean), .fieldLink RX1 21 "ChoirPlanner$Roster" "away" "[I"] ++ wsX10)
def wsX1_countMissed : List Cond := .code yX1_countMissed cX1_countMissed 4 (some .int) :: ([.fieldLink RX1 24 "ChoirPlanner$Roster" "size" "I", .fieldLink RX1 9 "ChoirPlanner$Roster" "voices" "[I", .methodLink RX1 41 yX1_isThere, .instanceMethod yX1_isThere, .selects RX1 yX1_isThere yX1_isThere, .initialized RX1, .code yX1_isThere cX1_isThere 3 (some .boolean), .fieldLink RX1 21 "ChoirPlanner$Roster" "away" "[I", .methodLink RX1 45 yX1_lastTone, .instanceMethod yX1_lastTone, .selects RX1 yX1_lastTone yX1_lastTone, .code yX1_lastTone cX1_lastTone 5 (some .int), .fieldLink RX1 18 "ChoirPlanner$Roster" "highest" "[I", .methodLink RX1 38 Lib.Math.min.name, .static Lib.Math.min.name, .initialized "java/lang/Math", .code Lib.Math.min.name Lib.Math.min.code 2 (some .int), .methodLink RX1 28 yX1_sings, .instanceMethod yX1_sings, .selects RX1 yX1_sings yX1_sings, .code yX1_sings cX1_sings 4 (some .boolean)] ++ wsX10)
def wsX2_init_r1 : List Cond := [Cond.methodLink RX2 3 objectInit, Cond.instanceMethod objectInit, Cond.code objectInit ⟨#[0xb1]⟩ 1 none, Cond.classLink RX2 9 RX1, Cond.instantiable RX1 5, Cond.initialized RX1, Cond.fieldLink RX2 12 "ChoirPlanner" "roster" "LChoirPlanner$Roster;", Cond.classLink RX2 16 RX0, Cond.fieldLink RX2 18 "ChoirPlanner" "pieces" "[LChoirPlanner$Piece;", Cond.instantiable RX0 5, Cond.initialized RX0, Cond.fieldLink RX2 23 "ChoirPlanner" "draft" "LChoirPlanner$Piece;", Cond.instanceMethod yX1_init, Cond.code yX1_init cX1_init 1 none, Cond.methodLink RX1 3 objectInit, Cond.arrayClass .int, Cond.fieldLink RX1 9 "ChoirPlanner$Roster" "voices" "[I", Cond.fieldLink RX1 15 "ChoirPlanner$Roster" "lowest" "[I", Cond.fieldLink RX1 18 "ChoirPlanner$Roster" "highest" "[I", Cond.fieldLink RX1 21 "ChoirPlanner$Roster" "away" "[I", Cond.instanceMethod yX0_init, Cond.code yX0_init cX0_init 1 none, Cond.methodLink RX0 3 objectInit, Cond.fieldLink RX0 9 "ChoirPlanner$Piece" "tones" "[I"]
def wsX2_init_r2 : List Cond := [Cond.fieldLink RX0 15 "ChoirPlanner$Piece" "practice" "[I", Cond.fieldLink RX0 18 "ChoirPlanner$Piece" "moveFaults" "[I"]
def wsX2_init : List Cond := .code yX2_init cX2_init 1 none :: ((wsX2_init_r1 ++ wsX2_init_r2) ++ wsX10 ++ wsX20 ++ wsX00)
def wsX2_checkVoice : List Cond := .code yX2_checkVoice cX2_checkVoice 1 none :: ([.classLink RX2 35 "java/lang/IllegalArgumentException", .initialized "java/lang/IllegalArgumentException"] ++ (vx_atS RX2 39 "java/lang/IllegalArgumentException" ["java/lang/RuntimeException", "java/lang/Exception"]).filter goodWord)
def wsX2_checkTone : List Cond := .code yX2_checkTone cX2_checkTone 2 none :: ([.classLink RX2 35 "java/lang/IllegalArgumentException", .initialized "java/lang/IllegalArgumentException"] ++ (vx_atS RX2 39 "java/lang/IllegalArgumentException" ["java/lang/RuntimeException", "java/lang/Exception"]).filter goodWord)
def wsX2_addSinger_r1 : List Cond := [Cond.classLink RX2 35 "java/lang/IllegalArgumentException", Cond.initialized "java/lang/IllegalArgumentException", Cond.classLink RX2 46 "java/lang/IllegalStateException", Cond.initialized "java/lang/IllegalStateException", Cond.fieldLink RX2 12 "ChoirPlanner" "roster" "LChoirPlanner$Roster;", Cond.methodLink RX2 27 yX2_checkVoice, Cond.static yX2_checkVoice, Cond.initialized RX2, Cond.code yX2_checkVoice cX2_checkVoice 1 none, Cond.methodLink RX2 31 yX2_checkTone, Cond.static yX2_checkTone, Cond.code yX2_checkTone cX2_checkTone 2 none, Cond.methodLink RX2 42 yX1_isFull, Cond.instanceMethod yX1_isFull, Cond.selects RX1 yX1_isFull yX1_isFull, Cond.initialized RX1, Cond.code yX1_isFull cX1_isFull 1 (some .boolean), Cond.fieldLink RX1 24 "ChoirPlanner$Roster" "size" "I", Cond.methodLink RX2 51 yX1_add, Cond.instanceMethod yX1_add, Cond.selects RX1 yX1_add yX1_add, Cond.code yX1_add cX1_add 5 (some .int), Cond.fieldLink RX1 9 "ChoirPlanner$Roster" "voices" "[I", Cond.fieldLink RX1 15 "ChoirPlanner$Roster" "lowest" "[I"]
def wsX2_addSinger_r2 : List Cond := [Cond.fieldLink RX1 18 "ChoirPlanner$Roster" "highest" "[I"]
def wsX2_addSinger : List Cond := .code yX2_addSinger cX2_addSinger 4 (some .int) :: ((wsX2_addSinger_r1 ++ wsX2_addSinger_r2) ++ wsX20 ++ wsX10 ++ (vx_atS RX2 39 "java/lang/IllegalArgumentException" ["java/lang/RuntimeException", "java/lang/Exception"]).filter goodWord ++ (vx_atS RX2 50 "java/lang/IllegalStateException" ["java/lang/RuntimeException", "java/lang/Exception"]).filter goodWord)
def wsX2_checkSinger : List Cond := .code yX2_checkSinger cX2_checkSinger 2 none :: ([.classLink RX2 137 "java/lang/IndexOutOfBoundsException", .initialized "java/lang/IndexOutOfBoundsException", .fieldLink RX2 12 "ChoirPlanner" "roster" "LChoirPlanner$Roster;", .methodLink RX2 185 yX1_has, .instanceMethod yX1_has, .selects RX1 yX1_has yX1_has, .initialized RX1, .code yX1_has cX1_has 2 (some .boolean), .fieldLink RX1 24 "ChoirPlanner$Roster" "size" "I"] ++ wsX20 ++ wsX10 ++ (vx_atS RX2 141 "java/lang/IndexOutOfBoundsException" ["java/lang/RuntimeException", "java/lang/Exception"]).filter goodWord)
def wsX2_checkDate : List Cond := .code yX2_checkDate cX2_checkDate 1 none :: ([.classLink RX2 35 "java/lang/IllegalArgumentException", .initialized "java/lang/IllegalArgumentException"] ++ (vx_atS RX2 39 "java/lang/IllegalArgumentException" ["java/lang/RuntimeException", "java/lang/Exception"]).filter goodWord)
def wsX2_tell_r1 : List Cond := [Cond.fieldLink RX2 12 "ChoirPlanner" "roster" "LChoirPlanner$Roster;", Cond.methodLink RX2 55 yX2_checkSinger, Cond.instanceMethod yX2_checkSinger, Cond.selects RX2 yX2_checkSinger yX2_checkSinger, Cond.initialized RX2, Cond.code yX2_checkSinger cX2_checkSinger 2 none, Cond.classLink RX2 137 "java/lang/IndexOutOfBoundsException", Cond.initialized "java/lang/IndexOutOfBoundsException", Cond.methodLink RX2 185 yX1_has, Cond.instanceMethod yX1_has, Cond.selects RX1 yX1_has yX1_has, Cond.initialized RX1, Cond.code yX1_has cX1_has 2 (some .boolean), Cond.fieldLink RX1 24 "ChoirPlanner$Roster" "size" "I", Cond.methodLink RX2 58 yX2_checkDate, Cond.static yX2_checkDate, Cond.code yX2_checkDate cX2_checkDate 1 none, Cond.classLink RX2 35 "java/lang/IllegalArgumentException", Cond.initialized "java/lang/IllegalArgumentException", Cond.methodLink RX2 61 yX1_isThere, Cond.instanceMethod yX1_isThere, Cond.selects RX1 yX1_isThere yX1_isThere, Cond.code yX1_isThere cX1_isThere 3 (some .boolean), Cond.fieldLink RX1 21 "ChoirPlanner$Roster" "away" "[I"]
def wsX2_tell_r2 : List Cond := [Cond.methodLink RX2 65 yX1_putThere, Cond.instanceMethod yX1_putThere, Cond.selects RX1 yX1_putThere yX1_putThere, Cond.code yX1_putThere cX1_putThere 5 none]
def wsX2_tell : List Cond := .code yX2_tell cX2_tell 5 (some .boolean) :: ((wsX2_tell_r1 ++ wsX2_tell_r2) ++ wsX20 ++ wsX10 ++ (vx_atS RX2 141 "java/lang/IndexOutOfBoundsException" ["java/lang/RuntimeException", "java/lang/Exception"]).filter goodWord ++ (vx_atS RX2 39 "java/lang/IllegalArgumentException" ["java/lang/RuntimeException", "java/lang/Exception"]).filter goodWord)
def wsX2_change : List Cond := .code yX2_change cX2_change 3 (some .int) :: ([.fieldLink RX2 12 "ChoirPlanner" "roster" "LChoirPlanner$Roster;", .methodLink RX2 55 yX2_checkSinger, .instanceMethod yX2_checkSinger, .selects RX2 yX2_checkSinger yX2_checkSinger, .initialized RX2, .code yX2_checkSinger cX2_checkSinger 2 none, .classLink RX2 137 "java/lang/IndexOutOfBoundsException", .initialized "java/lang/IndexOutOfBoundsException", .methodLink RX2 185 yX1_has, .instanceMethod yX1_has, .selects RX1 yX1_has yX1_has, .initialized RX1, .code yX1_has cX1_has 2 (some .boolean), .fieldLink RX1 24 "ChoirPlanner$Roster" "size" "I", .methodLink RX2 27 yX2_checkVoice, .static yX2_checkVoice, .code yX2_checkVoice cX2_checkVoice 1 none, .classLink RX2 35 "java/lang/IllegalArgumentException", .initialized "java/lang/IllegalArgumentException", .methodLink RX2 69 yX1_replaceVoice, .instanceMethod yX1_replaceVoice, .selects RX1 yX1_replaceVoice yX1_replaceVoice, .code yX1_replaceVoice cX1_replaceVoice 4 (some .int), .fieldLink RX1 9 "ChoirPlanner$Roster" "voices" "[I"] ++ wsX20 ++ wsX10 ++ (vx_atS RX2 141 "java/lang/IndexOutOfBoundsException" ["java/lang/RuntimeException", "java/lang/Exception"]).filter goodWord ++ (vx_atS RX2 39 "java/lang/IllegalArgumentException" ["java/lang/RuntimeException", "java/lang/Exception"]).filter goodWord)
def wsX2_range_r1 : List Cond := [Cond.fieldLink RX2 12 "ChoirPlanner" "roster" "LChoirPlanner$Roster;", Cond.methodLink RX2 27 yX2_checkVoice, Cond.static yX2_checkVoice, Cond.initialized RX2, Cond.code yX2_checkVoice cX2_checkVoice 1 none, Cond.classLink RX2 35 "java/lang/IllegalArgumentException", Cond.initialized "java/lang/IllegalArgumentException", Cond.methodLink RX2 58 yX2_checkDate, Cond.static yX2_checkDate, Cond.code yX2_checkDate cX2_checkDate 1 none, Cond.methodLink RX2 73 yX1_firstTone, Cond.instanceMethod yX1_firstTone, Cond.selects RX1 yX1_firstTone yX1_firstTone, Cond.initialized RX1, Cond.code yX1_firstTone cX1_firstTone 5 (some .int), Cond.fieldLink RX1 24 "ChoirPlanner$Roster" "size" "I", Cond.fieldLink RX1 15 "ChoirPlanner$Roster" "lowest" "[I", Cond.methodLink RX1 32 Lib.Math.max.name, Cond.static Lib.Math.max.name, Cond.initialized "java/lang/Math", Cond.code Lib.Math.max.name Lib.Math.max.code 2 (some .int), Cond.methodLink RX1 28 yX1_sings, Cond.instanceMethod yX1_sings, Cond.selects RX1 yX1_sings yX1_sings]
def wsX2_range_r2 : List Cond := [Cond.code yX1_sings cX1_sings 4 (some .boolean), Cond.fieldLink RX1 9 "ChoirPlanner$Roster" "voices" "[I", Cond.methodLink RX1 41 yX1_isThere, Cond.instanceMethod yX1_isThere, Cond.selects RX1 yX1_isThere yX1_isThere, Cond.code yX1_isThere cX1_isThere 3 (some .boolean), Cond.fieldLink RX1 21 "ChoirPlanner$Roster" "away" "[I", Cond.methodLink RX2 76 yX1_lastTone, Cond.instanceMethod yX1_lastTone, Cond.selects RX1 yX1_lastTone yX1_lastTone, Cond.code yX1_lastTone cX1_lastTone 5 (some .int), Cond.fieldLink RX1 18 "ChoirPlanner$Roster" "highest" "[I", Cond.methodLink RX1 38 Lib.Math.min.name, Cond.static Lib.Math.min.name, Cond.code Lib.Math.min.name Lib.Math.min.code 2 (some .int)]
def wsX2_range : List Cond := .code yX2_range cX2_range 5 (some .int) :: ((wsX2_range_r1 ++ wsX2_range_r2) ++ wsX20 ++ wsX10 ++ (vx_atS RX2 39 "java/lang/IllegalArgumentException" ["java/lang/RuntimeException", "java/lang/Exception"]).filter goodWord)
def wsX2_chord_r1 : List Cond := [Cond.classLink RX2 46 "java/lang/IllegalStateException", Cond.initialized "java/lang/IllegalStateException", Cond.fieldLink RX2 23 "ChoirPlanner" "draft" "LChoirPlanner$Piece;", Cond.methodLink RX2 31 yX2_checkTone, Cond.static yX2_checkTone, Cond.initialized RX2, Cond.code yX2_checkTone cX2_checkTone 2 none, Cond.classLink RX2 35 "java/lang/IllegalArgumentException", Cond.initialized "java/lang/IllegalArgumentException", Cond.methodLink RX2 79 yX0_isFull, Cond.instanceMethod yX0_isFull, Cond.selects RX0 yX0_isFull yX0_isFull, Cond.initialized RX0, Cond.code yX0_isFull cX0_isFull 1 (some .boolean), Cond.fieldLink RX0 21 "ChoirPlanner$Piece" "size" "I", Cond.methodLink RX2 82 yX0_append, Cond.instanceMethod yX0_append, Cond.selects RX0 yX0_append yX0_append, Cond.code yX0_append cX0_append 6 (some .int), Cond.fieldLink RX0 9 "ChoirPlanner$Piece" "tones" "[I", Cond.methodLink RX0 28 yX0_countMoveFaults, Cond.instanceMethod yX0_countMoveFaults, Cond.selects RX0 yX0_countMoveFaults yX0_countMoveFaults, Cond.code yX0_countMoveFaults cX0_countMoveFaults 5 none]
def wsX2_chord_r2 : List Cond := [Cond.methodLink RX0 68 Lib.Math.abs.name, Cond.static Lib.Math.abs.name, Cond.initialized "java/lang/Math", Cond.code Lib.Math.abs.name Lib.Math.abs.code 1 (some .int), Cond.fieldLink RX0 18 "ChoirPlanner$Piece" "moveFaults" "[I", Cond.methodLink RX0 65 yX0_stepInto, Cond.instanceMethod yX0_stepInto, Cond.selects RX0 yX0_stepInto yX0_stepInto, Cond.code yX0_stepInto cX0_stepInto 3 (some .int), Cond.methodLink RX0 32 yX0_toneAt, Cond.instanceMethod yX0_toneAt, Cond.selects RX0 yX0_toneAt yX0_toneAt, Cond.code yX0_toneAt cX0_toneAt 3 (some .int), Cond.methodLink RX0 71 yX0_isParallel, Cond.instanceMethod yX0_isParallel, Cond.selects RX0 yX0_isParallel yX0_isParallel, Cond.code yX0_isParallel cX0_isParallel 5 (some .boolean), Cond.methodLink RX0 75 yX0_isTold, Cond.static yX0_isTold, Cond.code yX0_isTold cX0_isTold 2 (some .boolean)]
def wsX2_chord : List Cond := .code yX2_chord cX2_chord 5 (some .int) :: ((wsX2_chord_r1 ++ wsX2_chord_r2) ++ wsX20 ++ wsX00 ++ (vx_atS RX2 50 "java/lang/IllegalStateException" ["java/lang/RuntimeException", "java/lang/Exception"]).filter goodWord ++ (vx_atS RX2 39 "java/lang/IllegalArgumentException" ["java/lang/RuntimeException", "java/lang/Exception"]).filter goodWord)
def wsX2_addPiece_r1 : List Cond := [Cond.classLink RX2 35 "java/lang/IllegalArgumentException", Cond.initialized "java/lang/IllegalArgumentException", Cond.classLink RX2 46 "java/lang/IllegalStateException", Cond.initialized "java/lang/IllegalStateException", Cond.fieldLink RX2 23 "ChoirPlanner" "draft" "LChoirPlanner$Piece;", Cond.fieldLink RX2 93 "ChoirPlanner" "pieceCount" "I", Cond.fieldLink RX2 18 "ChoirPlanner" "pieces" "[LChoirPlanner$Piece;", Cond.classLink RX2 16 RX0, Cond.instantiable RX0 5, Cond.initialized RX0, Cond.methodLink RX2 88 yX0_isEmpty, Cond.instanceMethod yX0_isEmpty, Cond.selects RX0 yX0_isEmpty yX0_isEmpty, Cond.code yX0_isEmpty cX0_isEmpty 1 (some .boolean), Cond.fieldLink RX0 21 "ChoirPlanner$Piece" "size" "I", Cond.methodLink RX2 99 yX0_putLength, Cond.instanceMethod yX0_putLength, Cond.selects RX0 yX0_putLength yX0_putLength, Cond.code yX0_putLength cX0_putLength 2 none, Cond.fieldLink RX0 25 "ChoirPlanner$Piece" "seconds" "I", Cond.instanceMethod yX0_init, Cond.code yX0_init cX0_init 1 none, Cond.methodLink RX0 3 objectInit, Cond.instanceMethod objectInit]
def wsX2_addPiece_r2 : List Cond := [Cond.code objectInit ⟨#[0xb1]⟩ 1 none, Cond.arrayClass .int, Cond.fieldLink RX0 9 "ChoirPlanner$Piece" "tones" "[I", Cond.fieldLink RX0 15 "ChoirPlanner$Piece" "practice" "[I", Cond.fieldLink RX0 18 "ChoirPlanner$Piece" "moveFaults" "[I"]
def wsX2_addPiece : List Cond := .code yX2_addPiece cX2_addPiece 3 (some .int) :: ((wsX2_addPiece_r1 ++ wsX2_addPiece_r2) ++ wsX20 ++ wsX00 ++ (vx_atS RX2 39 "java/lang/IllegalArgumentException" ["java/lang/RuntimeException", "java/lang/Exception"]).filter goodWord ++ (vx_atS RX2 50 "java/lang/IllegalStateException" ["java/lang/RuntimeException", "java/lang/Exception"]).filter goodWord)
def wsX2_pieceAt : List Cond := .code yX2_pieceAt cX2_pieceAt 3 (some (.object "ChoirPlanner$Piece")) :: ([.classLink RX2 137 "java/lang/IndexOutOfBoundsException", .initialized "java/lang/IndexOutOfBoundsException", .fieldLink RX2 93 "ChoirPlanner" "pieceCount" "I", .fieldLink RX2 18 "ChoirPlanner" "pieces" "[LChoirPlanner$Piece;"] ++ wsX20 ++ (vx_atS RX2 141 "java/lang/IndexOutOfBoundsException" ["java/lang/RuntimeException", "java/lang/Exception"]).filter goodWord)
def wsX2_checkChord : List Cond := .code yX2_checkChord cX2_checkChord 2 none :: ([.classLink RX2 137 "java/lang/IndexOutOfBoundsException", .initialized "java/lang/IndexOutOfBoundsException", .methodLink RX2 190 yX0_has, .instanceMethod yX0_has, .selects RX0 yX0_has yX0_has, .initialized RX0, .code yX0_has cX0_has 2 (some .boolean), .fieldLink RX0 21 "ChoirPlanner$Piece" "size" "I"] ++ wsX00 ++ (vx_atS RX2 141 "java/lang/IndexOutOfBoundsException" ["java/lang/RuntimeException", "java/lang/Exception"]).filter goodWord)
def wsX2_setTone_r1 : List Cond := [Cond.classLink RX2 46 "java/lang/IllegalStateException", Cond.initialized "java/lang/IllegalStateException", Cond.methodLink RX2 102 yX2_pieceAt, Cond.instanceMethod yX2_pieceAt, Cond.selects RX2 yX2_pieceAt yX2_pieceAt, Cond.initialized RX2, Cond.code yX2_pieceAt cX2_pieceAt 3 (some (.object "ChoirPlanner$Piece")), Cond.classLink RX2 137 "java/lang/IndexOutOfBoundsException", Cond.initialized "java/lang/IndexOutOfBoundsException", Cond.fieldLink RX2 93 "ChoirPlanner" "pieceCount" "I", Cond.fieldLink RX2 18 "ChoirPlanner" "pieces" "[LChoirPlanner$Piece;", Cond.methodLink RX2 106 yX2_checkChord, Cond.static yX2_checkChord, Cond.code yX2_checkChord cX2_checkChord 2 none, Cond.methodLink RX2 190 yX0_has, Cond.instanceMethod yX0_has, Cond.selects RX0 yX0_has yX0_has, Cond.initialized RX0, Cond.code yX0_has cX0_has 2 (some .boolean), Cond.fieldLink RX0 21 "ChoirPlanner$Piece" "size" "I", Cond.methodLink RX2 27 yX2_checkVoice, Cond.static yX2_checkVoice, Cond.code yX2_checkVoice cX2_checkVoice 1 none, Cond.classLink RX2 35 "java/lang/IllegalArgumentException"]
def wsX2_setTone_r2 : List Cond := [Cond.initialized "java/lang/IllegalArgumentException", Cond.methodLink RX2 31 yX2_checkTone, Cond.static yX2_checkTone, Cond.code yX2_checkTone cX2_checkTone 2 none, Cond.methodLink RX2 110 yX0_ceiling, Cond.instanceMethod yX0_ceiling, Cond.selects RX0 yX0_ceiling yX0_ceiling, Cond.code yX0_ceiling cX0_ceiling 3 (some .int), Cond.methodLink RX0 32 yX0_toneAt, Cond.instanceMethod yX0_toneAt, Cond.selects RX0 yX0_toneAt yX0_toneAt, Cond.code yX0_toneAt cX0_toneAt 3 (some .int), Cond.fieldLink RX0 9 "ChoirPlanner$Piece" "tones" "[I", Cond.methodLink RX2 113 yX0_floor, Cond.instanceMethod yX0_floor, Cond.selects RX0 yX0_floor yX0_floor, Cond.code yX0_floor cX0_floor 3 (some .int), Cond.methodLink RX2 118 yX0_toneAt, Cond.methodLink RX2 121 yX0_putTone, Cond.instanceMethod yX0_putTone, Cond.selects RX0 yX0_putTone yX0_putTone, Cond.code yX0_putTone cX0_putTone 4 none, Cond.methodLink RX0 28 yX0_countMoveFaults, Cond.instanceMethod yX0_countMoveFaults]
def wsX2_setTone_r3 : List Cond := [Cond.selects RX0 yX0_countMoveFaults yX0_countMoveFaults, Cond.code yX0_countMoveFaults cX0_countMoveFaults 5 none, Cond.methodLink RX0 68 Lib.Math.abs.name, Cond.static Lib.Math.abs.name, Cond.initialized "java/lang/Math", Cond.code Lib.Math.abs.name Lib.Math.abs.code 1 (some .int), Cond.fieldLink RX0 18 "ChoirPlanner$Piece" "moveFaults" "[I", Cond.methodLink RX0 65 yX0_stepInto, Cond.instanceMethod yX0_stepInto, Cond.selects RX0 yX0_stepInto yX0_stepInto, Cond.code yX0_stepInto cX0_stepInto 3 (some .int), Cond.methodLink RX0 71 yX0_isParallel, Cond.instanceMethod yX0_isParallel, Cond.selects RX0 yX0_isParallel yX0_isParallel, Cond.code yX0_isParallel cX0_isParallel 5 (some .boolean), Cond.methodLink RX0 75 yX0_isTold, Cond.static yX0_isTold, Cond.code yX0_isTold cX0_isTold 2 (some .boolean)]
def wsX2_setTone : List Cond := .code yX2_setTone cX2_setTone 7 (some .int) :: ((wsX2_setTone_r1 ++ (wsX2_setTone_r2 ++ wsX2_setTone_r3)) ++ wsX20 ++ wsX00 ++ (vx_atS RX2 50 "java/lang/IllegalStateException" ["java/lang/RuntimeException", "java/lang/Exception"]).filter goodWord ++ (vx_atS RX2 141 "java/lang/IndexOutOfBoundsException" ["java/lang/RuntimeException", "java/lang/Exception"]).filter goodWord ++ (vx_atS RX2 39 "java/lang/IllegalArgumentException" ["java/lang/RuntimeException", "java/lang/Exception"]).filter goodWord)
def wsX2_faultsAt : List Cond := .code yX2_faultsAt cX2_faultsAt 4 (some .int) :: ([.methodLink RX2 102 yX2_pieceAt, .instanceMethod yX2_pieceAt, .selects RX2 yX2_pieceAt yX2_pieceAt, .initialized RX2, .code yX2_pieceAt cX2_pieceAt 3 (some (.object "ChoirPlanner$Piece")), .classLink RX2 137 "java/lang/IndexOutOfBoundsException", .initialized "java/lang/IndexOutOfBoundsException", .fieldLink RX2 93 "ChoirPlanner" "pieceCount" "I", .fieldLink RX2 18 "ChoirPlanner" "pieces" "[LChoirPlanner$Piece;", .methodLink RX2 106 yX2_checkChord, .static yX2_checkChord, .code yX2_checkChord cX2_checkChord 2 none, .methodLink RX2 190 yX0_has, .instanceMethod yX0_has, .selects RX0 yX0_has yX0_has, .initialized RX0, .code yX0_has cX0_has 2 (some .boolean), .fieldLink RX0 21 "ChoirPlanner$Piece" "size" "I", .methodLink RX2 125 yX0_faultsInto, .instanceMethod yX0_faultsInto, .selects RX0 yX0_faultsInto yX0_faultsInto, .code yX0_faultsInto cX0_faultsInto 2 (some .int), .fieldLink RX0 18 "ChoirPlanner$Piece" "moveFaults" "[I"] ++ wsX20 ++ wsX00 ++ (vx_atS RX2 141 "java/lang/IndexOutOfBoundsException" ["java/lang/RuntimeException", "java/lang/Exception"]).filter goodWord)
def wsX2_faults : List Cond := .code yX2_faults cX2_faults 2 (some .int) :: ([.methodLink RX2 102 yX2_pieceAt, .instanceMethod yX2_pieceAt, .selects RX2 yX2_pieceAt yX2_pieceAt, .initialized RX2, .code yX2_pieceAt cX2_pieceAt 3 (some (.object "ChoirPlanner$Piece")), .classLink RX2 137 "java/lang/IndexOutOfBoundsException", .initialized "java/lang/IndexOutOfBoundsException", .fieldLink RX2 93 "ChoirPlanner" "pieceCount" "I", .fieldLink RX2 18 "ChoirPlanner" "pieces" "[LChoirPlanner$Piece;", .methodLink RX2 129 yX0_faultSum, .instanceMethod yX0_faultSum, .selects RX0 yX0_faultSum yX0_faultSum, .initialized RX0, .code yX0_faultSum cX0_faultSum 3 (some .int), .fieldLink RX0 21 "ChoirPlanner$Piece" "size" "I", .fieldLink RX0 18 "ChoirPlanner$Piece" "moveFaults" "[I"] ++ wsX20 ++ wsX00 ++ (vx_atS RX2 141 "java/lang/IndexOutOfBoundsException" ["java/lang/RuntimeException", "java/lang/Exception"]).filter goodWord)
def wsX2_leastFaults_r1 : List Cond := [Cond.classLink RX2 137 "java/lang/IndexOutOfBoundsException", Cond.initialized "java/lang/IndexOutOfBoundsException", Cond.methodLink RX2 102 yX2_pieceAt, Cond.instanceMethod yX2_pieceAt, Cond.selects RX2 yX2_pieceAt yX2_pieceAt, Cond.initialized RX2, Cond.code yX2_pieceAt cX2_pieceAt 3 (some (.object "ChoirPlanner$Piece")), Cond.fieldLink RX2 93 "ChoirPlanner" "pieceCount" "I", Cond.fieldLink RX2 18 "ChoirPlanner" "pieces" "[LChoirPlanner$Piece;", Cond.methodLink RX2 106 yX2_checkChord, Cond.static yX2_checkChord, Cond.code yX2_checkChord cX2_checkChord 2 none, Cond.methodLink RX2 190 yX0_has, Cond.instanceMethod yX0_has, Cond.selects RX0 yX0_has yX0_has, Cond.initialized RX0, Cond.code yX0_has cX0_has 2 (some .boolean), Cond.fieldLink RX0 21 "ChoirPlanner$Piece" "size" "I", Cond.methodLink RX2 133 yX0_isLast, Cond.instanceMethod yX0_isLast, Cond.selects RX0 yX0_isLast yX0_isLast, Cond.code yX0_isLast cX0_isLast 2 (some .boolean), Cond.methodLink RX2 27 yX2_checkVoice, Cond.static yX2_checkVoice]
def wsX2_leastFaults_r2 : List Cond := [Cond.code yX2_checkVoice cX2_checkVoice 1 none, Cond.classLink RX2 35 "java/lang/IllegalArgumentException", Cond.initialized "java/lang/IllegalArgumentException", Cond.methodLink RX2 142 yX0_leastFaultSum, Cond.instanceMethod yX0_leastFaultSum, Cond.selects RX0 yX0_leastFaultSum yX0_leastFaultSum, Cond.code yX0_leastFaultSum cX0_leastFaultSum 7 (some .int), Cond.methodLink RX0 36 Lib.Math.min.name, Cond.static Lib.Math.min.name, Cond.initialized "java/lang/Math", Cond.code Lib.Math.min.name Lib.Math.min.code 2 (some .int), Cond.methodLink RX0 32 yX0_toneAt, Cond.instanceMethod yX0_toneAt, Cond.selects RX0 yX0_toneAt yX0_toneAt, Cond.code yX0_toneAt cX0_toneAt 3 (some .int), Cond.fieldLink RX0 9 "ChoirPlanner$Piece" "tones" "[I", Cond.methodLink RX0 44 yX0_ceiling, Cond.instanceMethod yX0_ceiling, Cond.selects RX0 yX0_ceiling yX0_ceiling, Cond.code yX0_ceiling cX0_ceiling 3 (some .int), Cond.methodLink RX0 47 yX0_faultSum, Cond.instanceMethod yX0_faultSum, Cond.selects RX0 yX0_faultSum yX0_faultSum, Cond.code yX0_faultSum cX0_faultSum 3 (some .int)]
def wsX2_leastFaults_r3 : List Cond := [Cond.fieldLink RX0 18 "ChoirPlanner$Piece" "moveFaults" "[I", Cond.methodLink RX0 51 yX0_floor, Cond.instanceMethod yX0_floor, Cond.selects RX0 yX0_floor yX0_floor, Cond.code yX0_floor cX0_floor 3 (some .int), Cond.methodLink RX0 54 yX0_putTone, Cond.instanceMethod yX0_putTone, Cond.selects RX0 yX0_putTone yX0_putTone, Cond.code yX0_putTone cX0_putTone 4 none, Cond.methodLink RX0 28 yX0_countMoveFaults, Cond.instanceMethod yX0_countMoveFaults, Cond.selects RX0 yX0_countMoveFaults yX0_countMoveFaults, Cond.code yX0_countMoveFaults cX0_countMoveFaults 5 none, Cond.methodLink RX0 68 Lib.Math.abs.name, Cond.static Lib.Math.abs.name, Cond.code Lib.Math.abs.name Lib.Math.abs.code 1 (some .int), Cond.methodLink RX0 65 yX0_stepInto, Cond.instanceMethod yX0_stepInto, Cond.selects RX0 yX0_stepInto yX0_stepInto, Cond.code yX0_stepInto cX0_stepInto 3 (some .int), Cond.methodLink RX0 71 yX0_isParallel, Cond.instanceMethod yX0_isParallel, Cond.selects RX0 yX0_isParallel yX0_isParallel, Cond.code yX0_isParallel cX0_isParallel 5 (some .boolean)]
def wsX2_leastFaults_r4 : List Cond := [Cond.methodLink RX0 75 yX0_isTold, Cond.static yX0_isTold, Cond.code yX0_isTold cX0_isTold 2 (some .boolean)]
def wsX2_leastFaults : List Cond := .code yX2_leastFaults cX2_leastFaults 5 (some .int) :: ((wsX2_leastFaults_r1 ++ (wsX2_leastFaults_r2 ++ (wsX2_leastFaults_r3 ++ wsX2_leastFaults_r4))) ++ wsX20 ++ wsX00 ++ (vx_atS RX2 141 "java/lang/IndexOutOfBoundsException" ["java/lang/RuntimeException", "java/lang/Exception"]).filter goodWord ++ (vx_atS RX2 39 "java/lang/IllegalArgumentException" ["java/lang/RuntimeException", "java/lang/Exception"]).filter goodWord)
def wsX2_nearestShift_r1 : List Cond := [Cond.fieldLink RX2 12 "ChoirPlanner" "roster" "LChoirPlanner$Roster;", Cond.methodLink RX2 198 Lib.Math.max.name, Cond.static Lib.Math.max.name, Cond.initialized "java/lang/Math", Cond.code Lib.Math.max.name Lib.Math.max.code 2 (some .int), Cond.methodLink RX2 206 Lib.Math.min.name, Cond.static Lib.Math.min.name, Cond.code Lib.Math.min.name Lib.Math.min.code 2 (some .int), Cond.methodLink RX2 73 yX1_firstTone, Cond.instanceMethod yX1_firstTone, Cond.selects RX1 yX1_firstTone yX1_firstTone, Cond.initialized RX1, Cond.code yX1_firstTone cX1_firstTone 5 (some .int), Cond.fieldLink RX1 24 "ChoirPlanner$Roster" "size" "I", Cond.fieldLink RX1 15 "ChoirPlanner$Roster" "lowest" "[I", Cond.methodLink RX1 32 Lib.Math.max.name, Cond.methodLink RX1 28 yX1_sings, Cond.instanceMethod yX1_sings, Cond.selects RX1 yX1_sings yX1_sings, Cond.code yX1_sings cX1_sings 4 (some .boolean), Cond.fieldLink RX1 9 "ChoirPlanner$Roster" "voices" "[I", Cond.methodLink RX1 41 yX1_isThere, Cond.instanceMethod yX1_isThere, Cond.selects RX1 yX1_isThere yX1_isThere]
def wsX2_nearestShift_r2 : List Cond := [Cond.code yX1_isThere cX1_isThere 3 (some .boolean), Cond.fieldLink RX1 21 "ChoirPlanner$Roster" "away" "[I", Cond.methodLink RX2 195 yX0_lowestTone, Cond.instanceMethod yX0_lowestTone, Cond.selects RX0 yX0_lowestTone yX0_lowestTone, Cond.initialized RX0, Cond.code yX0_lowestTone cX0_lowestTone 4 (some .int), Cond.fieldLink RX0 21 "ChoirPlanner$Piece" "size" "I", Cond.methodLink RX0 36 Lib.Math.min.name, Cond.methodLink RX0 32 yX0_toneAt, Cond.instanceMethod yX0_toneAt, Cond.selects RX0 yX0_toneAt yX0_toneAt, Cond.code yX0_toneAt cX0_toneAt 3 (some .int), Cond.fieldLink RX0 9 "ChoirPlanner$Piece" "tones" "[I", Cond.methodLink RX2 76 yX1_lastTone, Cond.instanceMethod yX1_lastTone, Cond.selects RX1 yX1_lastTone yX1_lastTone, Cond.code yX1_lastTone cX1_lastTone 5 (some .int), Cond.fieldLink RX1 18 "ChoirPlanner$Roster" "highest" "[I", Cond.methodLink RX1 38 Lib.Math.min.name, Cond.methodLink RX2 203 yX0_highestTone, Cond.instanceMethod yX0_highestTone, Cond.selects RX0 yX0_highestTone yX0_highestTone, Cond.code yX0_highestTone cX0_highestTone 4 (some .int)]
def wsX2_nearestShift_r3 : List Cond := [Cond.methodLink RX0 41 Lib.Math.max.name]
def wsX2_nearestShift : List Cond := .code yX2_nearestShift cX2_nearestShift 6 (some .int) :: ((wsX2_nearestShift_r1 ++ (wsX2_nearestShift_r2 ++ wsX2_nearestShift_r3)) ++ wsX20 ++ wsX10 ++ wsX00)
def wsX2_shift_r1 : List Cond := [Cond.classLink RX2 46 "java/lang/IllegalStateException", Cond.initialized "java/lang/IllegalStateException", Cond.methodLink RX2 102 yX2_pieceAt, Cond.instanceMethod yX2_pieceAt, Cond.selects RX2 yX2_pieceAt yX2_pieceAt, Cond.initialized RX2, Cond.code yX2_pieceAt cX2_pieceAt 3 (some (.object "ChoirPlanner$Piece")), Cond.classLink RX2 137 "java/lang/IndexOutOfBoundsException", Cond.initialized "java/lang/IndexOutOfBoundsException", Cond.fieldLink RX2 93 "ChoirPlanner" "pieceCount" "I", Cond.fieldLink RX2 18 "ChoirPlanner" "pieces" "[LChoirPlanner$Piece;", Cond.methodLink RX2 58 yX2_checkDate, Cond.static yX2_checkDate, Cond.code yX2_checkDate cX2_checkDate 1 none, Cond.classLink RX2 35 "java/lang/IllegalArgumentException", Cond.initialized "java/lang/IllegalArgumentException", Cond.methodLink RX2 145 yX2_nearestShift, Cond.instanceMethod yX2_nearestShift, Cond.selects RX2 yX2_nearestShift yX2_nearestShift, Cond.code yX2_nearestShift cX2_nearestShift 6 (some .int), Cond.fieldLink RX2 12 "ChoirPlanner" "roster" "LChoirPlanner$Roster;", Cond.methodLink RX2 198 Lib.Math.max.name, Cond.static Lib.Math.max.name, Cond.initialized "java/lang/Math"]
def wsX2_shift_r2 : List Cond := [Cond.code Lib.Math.max.name Lib.Math.max.code 2 (some .int), Cond.methodLink RX2 206 Lib.Math.min.name, Cond.static Lib.Math.min.name, Cond.code Lib.Math.min.name Lib.Math.min.code 2 (some .int), Cond.methodLink RX2 73 yX1_firstTone, Cond.instanceMethod yX1_firstTone, Cond.selects RX1 yX1_firstTone yX1_firstTone, Cond.initialized RX1, Cond.code yX1_firstTone cX1_firstTone 5 (some .int), Cond.fieldLink RX1 24 "ChoirPlanner$Roster" "size" "I", Cond.fieldLink RX1 15 "ChoirPlanner$Roster" "lowest" "[I", Cond.methodLink RX1 32 Lib.Math.max.name, Cond.methodLink RX1 28 yX1_sings, Cond.instanceMethod yX1_sings, Cond.selects RX1 yX1_sings yX1_sings, Cond.code yX1_sings cX1_sings 4 (some .boolean), Cond.fieldLink RX1 9 "ChoirPlanner$Roster" "voices" "[I", Cond.methodLink RX1 41 yX1_isThere, Cond.instanceMethod yX1_isThere, Cond.selects RX1 yX1_isThere yX1_isThere, Cond.code yX1_isThere cX1_isThere 3 (some .boolean), Cond.fieldLink RX1 21 "ChoirPlanner$Roster" "away" "[I", Cond.methodLink RX2 195 yX0_lowestTone, Cond.instanceMethod yX0_lowestTone]
def wsX2_shift_r3 : List Cond := [Cond.selects RX0 yX0_lowestTone yX0_lowestTone, Cond.initialized RX0, Cond.code yX0_lowestTone cX0_lowestTone 4 (some .int), Cond.fieldLink RX0 21 "ChoirPlanner$Piece" "size" "I", Cond.methodLink RX0 36 Lib.Math.min.name, Cond.methodLink RX0 32 yX0_toneAt, Cond.instanceMethod yX0_toneAt, Cond.selects RX0 yX0_toneAt yX0_toneAt, Cond.code yX0_toneAt cX0_toneAt 3 (some .int), Cond.fieldLink RX0 9 "ChoirPlanner$Piece" "tones" "[I", Cond.methodLink RX2 76 yX1_lastTone, Cond.instanceMethod yX1_lastTone, Cond.selects RX1 yX1_lastTone yX1_lastTone, Cond.code yX1_lastTone cX1_lastTone 5 (some .int), Cond.fieldLink RX1 18 "ChoirPlanner$Roster" "highest" "[I", Cond.methodLink RX1 38 Lib.Math.min.name, Cond.methodLink RX2 203 yX0_highestTone, Cond.instanceMethod yX0_highestTone, Cond.selects RX0 yX0_highestTone yX0_highestTone, Cond.code yX0_highestTone cX0_highestTone 4 (some .int), Cond.methodLink RX0 41 Lib.Math.max.name]
def wsX2_shift : List Cond := .code yX2_shift cX2_shift 5 (some .int) :: ((wsX2_shift_r1 ++ (wsX2_shift_r2 ++ wsX2_shift_r3)) ++ wsX20 ++ wsX10 ++ wsX00 ++ (vx_atS RX2 50 "java/lang/IllegalStateException" ["java/lang/RuntimeException", "java/lang/Exception"]).filter goodWord ++ (vx_atS RX2 141 "java/lang/IndexOutOfBoundsException" ["java/lang/RuntimeException", "java/lang/Exception"]).filter goodWord ++ (vx_atS RX2 39 "java/lang/IllegalArgumentException" ["java/lang/RuntimeException", "java/lang/Exception"]).filter goodWord)
def wsX2_dates_r1 : List Cond := [Cond.methodLink RX2 102 yX2_pieceAt, Cond.instanceMethod yX2_pieceAt, Cond.selects RX2 yX2_pieceAt yX2_pieceAt, Cond.initialized RX2, Cond.code yX2_pieceAt cX2_pieceAt 3 (some (.object "ChoirPlanner$Piece")), Cond.classLink RX2 137 "java/lang/IndexOutOfBoundsException", Cond.initialized "java/lang/IndexOutOfBoundsException", Cond.fieldLink RX2 93 "ChoirPlanner" "pieceCount" "I", Cond.fieldLink RX2 18 "ChoirPlanner" "pieces" "[LChoirPlanner$Piece;", Cond.methodLink RX2 145 yX2_nearestShift, Cond.instanceMethod yX2_nearestShift, Cond.selects RX2 yX2_nearestShift yX2_nearestShift, Cond.code yX2_nearestShift cX2_nearestShift 6 (some .int), Cond.fieldLink RX2 12 "ChoirPlanner" "roster" "LChoirPlanner$Roster;", Cond.methodLink RX2 198 Lib.Math.max.name, Cond.static Lib.Math.max.name, Cond.initialized "java/lang/Math", Cond.code Lib.Math.max.name Lib.Math.max.code 2 (some .int), Cond.methodLink RX2 206 Lib.Math.min.name, Cond.static Lib.Math.min.name, Cond.code Lib.Math.min.name Lib.Math.min.code 2 (some .int), Cond.methodLink RX2 73 yX1_firstTone, Cond.instanceMethod yX1_firstTone, Cond.selects RX1 yX1_firstTone yX1_firstTone]
def wsX2_dates_r2 : List Cond := [Cond.initialized RX1, Cond.code yX1_firstTone cX1_firstTone 5 (some .int), Cond.fieldLink RX1 24 "ChoirPlanner$Roster" "size" "I", Cond.fieldLink RX1 15 "ChoirPlanner$Roster" "lowest" "[I", Cond.methodLink RX1 32 Lib.Math.max.name, Cond.methodLink RX1 28 yX1_sings, Cond.instanceMethod yX1_sings, Cond.selects RX1 yX1_sings yX1_sings, Cond.code yX1_sings cX1_sings 4 (some .boolean), Cond.fieldLink RX1 9 "ChoirPlanner$Roster" "voices" "[I", Cond.methodLink RX1 41 yX1_isThere, Cond.instanceMethod yX1_isThere, Cond.selects RX1 yX1_isThere yX1_isThere, Cond.code yX1_isThere cX1_isThere 3 (some .boolean), Cond.fieldLink RX1 21 "ChoirPlanner$Roster" "away" "[I", Cond.methodLink RX2 195 yX0_lowestTone, Cond.instanceMethod yX0_lowestTone, Cond.selects RX0 yX0_lowestTone yX0_lowestTone, Cond.initialized RX0, Cond.code yX0_lowestTone cX0_lowestTone 4 (some .int), Cond.fieldLink RX0 21 "ChoirPlanner$Piece" "size" "I", Cond.methodLink RX0 36 Lib.Math.min.name, Cond.methodLink RX0 32 yX0_toneAt, Cond.instanceMethod yX0_toneAt]
def wsX2_dates_r3 : List Cond := [Cond.selects RX0 yX0_toneAt yX0_toneAt, Cond.code yX0_toneAt cX0_toneAt 3 (some .int), Cond.fieldLink RX0 9 "ChoirPlanner$Piece" "tones" "[I", Cond.methodLink RX2 76 yX1_lastTone, Cond.instanceMethod yX1_lastTone, Cond.selects RX1 yX1_lastTone yX1_lastTone, Cond.code yX1_lastTone cX1_lastTone 5 (some .int), Cond.fieldLink RX1 18 "ChoirPlanner$Roster" "highest" "[I", Cond.methodLink RX1 38 Lib.Math.min.name, Cond.methodLink RX2 203 yX0_highestTone, Cond.instanceMethod yX0_highestTone, Cond.selects RX0 yX0_highestTone yX0_highestTone, Cond.code yX0_highestTone cX0_highestTone 4 (some .int), Cond.methodLink RX0 41 Lib.Math.max.name]
def wsX2_dates : List Cond := .code yX2_dates cX2_dates 5 (some .int) :: ((wsX2_dates_r1 ++ (wsX2_dates_r2 ++ wsX2_dates_r3)) ++ wsX20 ++ wsX10 ++ wsX00 ++ (vx_atS RX2 141 "java/lang/IndexOutOfBoundsException" ["java/lang/RuntimeException", "java/lang/Exception"]).filter goodWord)
def wsX2_missed_r1 : List Cond := [Cond.fieldLink RX2 12 "ChoirPlanner" "roster" "LChoirPlanner$Roster;", Cond.methodLink RX2 58 yX2_checkDate, Cond.static yX2_checkDate, Cond.initialized RX2, Cond.code yX2_checkDate cX2_checkDate 1 none, Cond.classLink RX2 35 "java/lang/IllegalArgumentException", Cond.initialized "java/lang/IllegalArgumentException", Cond.methodLink RX2 151 yX1_countMissed, Cond.instanceMethod yX1_countMissed, Cond.selects RX1 yX1_countMissed yX1_countMissed, Cond.initialized RX1, Cond.code yX1_countMissed cX1_countMissed 4 (some .int), Cond.fieldLink RX1 24 "ChoirPlanner$Roster" "size" "I", Cond.fieldLink RX1 9 "ChoirPlanner$Roster" "voices" "[I", Cond.methodLink RX1 41 yX1_isThere, Cond.instanceMethod yX1_isThere, Cond.selects RX1 yX1_isThere yX1_isThere, Cond.code yX1_isThere cX1_isThere 3 (some .boolean), Cond.fieldLink RX1 21 "ChoirPlanner$Roster" "away" "[I", Cond.methodLink RX1 45 yX1_lastTone, Cond.instanceMethod yX1_lastTone, Cond.selects RX1 yX1_lastTone yX1_lastTone, Cond.code yX1_lastTone cX1_lastTone 5 (some .int), Cond.fieldLink RX1 18 "ChoirPlanner$Roster" "highest" "[I"]
def wsX2_missed_r2 : List Cond := [Cond.methodLink RX1 38 Lib.Math.min.name, Cond.static Lib.Math.min.name, Cond.initialized "java/lang/Math", Cond.code Lib.Math.min.name Lib.Math.min.code 2 (some .int), Cond.methodLink RX1 28 yX1_sings, Cond.instanceMethod yX1_sings, Cond.selects RX1 yX1_sings yX1_sings, Cond.code yX1_sings cX1_sings 4 (some .boolean)]
def wsX2_missed : List Cond := .code yX2_missed cX2_missed 2 (some .int) :: ((wsX2_missed_r1 ++ wsX2_missed_r2) ++ wsX20 ++ wsX10 ++ (vx_atS RX2 39 "java/lang/IllegalArgumentException" ["java/lang/RuntimeException", "java/lang/Exception"]).filter goodWord)
def wsX2_checkTime : List Cond := .code yX2_checkTime cX2_checkTime 1 none :: ([.classLink RX2 35 "java/lang/IllegalArgumentException", .initialized "java/lang/IllegalArgumentException"] ++ (vx_atS RX2 39 "java/lang/IllegalArgumentException" ["java/lang/RuntimeException", "java/lang/Exception"]).filter goodWord)
def wsX2_singableSet_r1 : List Cond := [Cond.fieldLink RX2 93 "ChoirPlanner" "pieceCount" "I", Cond.methodLink RX2 102 yX2_pieceAt, Cond.instanceMethod yX2_pieceAt, Cond.selects RX2 yX2_pieceAt yX2_pieceAt, Cond.initialized RX2, Cond.code yX2_pieceAt cX2_pieceAt 3 (some (.object "ChoirPlanner$Piece")), Cond.classLink RX2 137 "java/lang/IndexOutOfBoundsException", Cond.initialized "java/lang/IndexOutOfBoundsException", Cond.fieldLink RX2 18 "ChoirPlanner" "pieces" "[LChoirPlanner$Piece;", Cond.methodLink RX2 145 yX2_nearestShift, Cond.instanceMethod yX2_nearestShift, Cond.selects RX2 yX2_nearestShift yX2_nearestShift, Cond.code yX2_nearestShift cX2_nearestShift 6 (some .int), Cond.fieldLink RX2 12 "ChoirPlanner" "roster" "LChoirPlanner$Roster;", Cond.methodLink RX2 198 Lib.Math.max.name, Cond.static Lib.Math.max.name, Cond.initialized "java/lang/Math", Cond.code Lib.Math.max.name Lib.Math.max.code 2 (some .int), Cond.methodLink RX2 206 Lib.Math.min.name, Cond.static Lib.Math.min.name, Cond.code Lib.Math.min.name Lib.Math.min.code 2 (some .int), Cond.methodLink RX2 73 yX1_firstTone, Cond.instanceMethod yX1_firstTone, Cond.selects RX1 yX1_firstTone yX1_firstTone]
def wsX2_singableSet_r2 : List Cond := [Cond.initialized RX1, Cond.code yX1_firstTone cX1_firstTone 5 (some .int), Cond.fieldLink RX1 24 "ChoirPlanner$Roster" "size" "I", Cond.fieldLink RX1 15 "ChoirPlanner$Roster" "lowest" "[I", Cond.methodLink RX1 32 Lib.Math.max.name, Cond.methodLink RX1 28 yX1_sings, Cond.instanceMethod yX1_sings, Cond.selects RX1 yX1_sings yX1_sings, Cond.code yX1_sings cX1_sings 4 (some .boolean), Cond.fieldLink RX1 9 "ChoirPlanner$Roster" "voices" "[I", Cond.methodLink RX1 41 yX1_isThere, Cond.instanceMethod yX1_isThere, Cond.selects RX1 yX1_isThere yX1_isThere, Cond.code yX1_isThere cX1_isThere 3 (some .boolean), Cond.fieldLink RX1 21 "ChoirPlanner$Roster" "away" "[I", Cond.methodLink RX2 195 yX0_lowestTone, Cond.instanceMethod yX0_lowestTone, Cond.selects RX0 yX0_lowestTone yX0_lowestTone, Cond.initialized RX0, Cond.code yX0_lowestTone cX0_lowestTone 4 (some .int), Cond.fieldLink RX0 21 "ChoirPlanner$Piece" "size" "I", Cond.methodLink RX0 36 Lib.Math.min.name, Cond.methodLink RX0 32 yX0_toneAt, Cond.instanceMethod yX0_toneAt]
def wsX2_singableSet_r3 : List Cond := [Cond.selects RX0 yX0_toneAt yX0_toneAt, Cond.code yX0_toneAt cX0_toneAt 3 (some .int), Cond.fieldLink RX0 9 "ChoirPlanner$Piece" "tones" "[I", Cond.methodLink RX2 76 yX1_lastTone, Cond.instanceMethod yX1_lastTone, Cond.selects RX1 yX1_lastTone yX1_lastTone, Cond.code yX1_lastTone cX1_lastTone 5 (some .int), Cond.fieldLink RX1 18 "ChoirPlanner$Roster" "highest" "[I", Cond.methodLink RX1 38 Lib.Math.min.name, Cond.methodLink RX2 203 yX0_highestTone, Cond.instanceMethod yX0_highestTone, Cond.selects RX0 yX0_highestTone yX0_highestTone, Cond.code yX0_highestTone cX0_highestTone 4 (some .int), Cond.methodLink RX0 41 Lib.Math.max.name]
def wsX2_singableSet : List Cond := .code yX2_singableSet cX2_singableSet 4 (some .int) :: ((wsX2_singableSet_r1 ++ (wsX2_singableSet_r2 ++ wsX2_singableSet_r3)) ++ wsX20 ++ wsX10 ++ wsX00 ++ (vx_atS RX2 141 "java/lang/IndexOutOfBoundsException" ["java/lang/RuntimeException", "java/lang/Exception"]).filter goodWord)
def wsX2_lengthOf : List Cond := .code yX2_lengthOf cX2_lengthOf 4 (some .int) :: ([.fieldLink RX2 93 "ChoirPlanner" "pieceCount" "I", .methodLink RX2 102 yX2_pieceAt, .instanceMethod yX2_pieceAt, .selects RX2 yX2_pieceAt yX2_pieceAt, .initialized RX2, .code yX2_pieceAt cX2_pieceAt 3 (some (.object "ChoirPlanner$Piece")), .classLink RX2 137 "java/lang/IndexOutOfBoundsException", .initialized "java/lang/IndexOutOfBoundsException", .fieldLink RX2 18 "ChoirPlanner" "pieces" "[LChoirPlanner$Piece;", .methodLink RX2 215 yX0_length, .instanceMethod yX0_length, .selects RX0 yX0_length yX0_length, .initialized RX0, .code yX0_length cX0_length 1 (some .int), .fieldLink RX0 25 "ChoirPlanner$Piece" "seconds" "I"] ++ wsX20 ++ wsX00 ++ (vx_atS RX2 141 "java/lang/IndexOutOfBoundsException" ["java/lang/RuntimeException", "java/lang/Exception"]).filter goodWord)
def wsJ6_bitCount_0f7a4 : List Cond := .code yJ6_bitCount_0f7a4 cJ6_bitCount_0f7a4 1 (some .int) :: ([.constant RJ6 265 (1431655765), .constant RJ6 266 (858993459), .constant RJ6 267 (252645135)])
def wsX2_isBetter_r1 : List Cond := [Cond.methodLink RX2 160 yX2_lengthOf, Cond.instanceMethod yX2_lengthOf, Cond.selects RX2 yX2_lengthOf yX2_lengthOf, Cond.initialized RX2, Cond.code yX2_lengthOf cX2_lengthOf 4 (some .int), Cond.fieldLink RX2 93 "ChoirPlanner" "pieceCount" "I", Cond.methodLink RX2 102 yX2_pieceAt, Cond.instanceMethod yX2_pieceAt, Cond.selects RX2 yX2_pieceAt yX2_pieceAt, Cond.code yX2_pieceAt cX2_pieceAt 3 (some (.object "ChoirPlanner$Piece")), Cond.classLink RX2 137 "java/lang/IndexOutOfBoundsException", Cond.initialized "java/lang/IndexOutOfBoundsException", Cond.fieldLink RX2 18 "ChoirPlanner" "pieces" "[LChoirPlanner$Piece;", Cond.methodLink RX2 215 yX0_length, Cond.instanceMethod yX0_length, Cond.selects RX0 yX0_length yX0_length, Cond.initialized RX0, Cond.code yX0_length cX0_length 1 (some .int), Cond.fieldLink RX0 25 "ChoirPlanner$Piece" "seconds" "I", Cond.methodLink RX2 218 yJ6_bitCount_0f7a4, Cond.static yJ6_bitCount_0f7a4, Cond.initialized RJ6, Cond.code yJ6_bitCount_0f7a4 cJ6_bitCount_0f7a4 1 (some .int), Cond.constant RJ6 265 (1431655765)]
def wsX2_isBetter_r2 : List Cond := [Cond.constant RJ6 266 (858993459), Cond.constant RJ6 267 (252645135)]
def wsX2_isBetter : List Cond := .code yX2_isBetter cX2_isBetter 7 (some .boolean) :: ((wsX2_isBetter_r1 ++ wsX2_isBetter_r2) ++ wsX20 ++ wsX00 ++ (vx_atS RX2 141 "java/lang/IndexOutOfBoundsException" ["java/lang/RuntimeException", "java/lang/Exception"]).filter goodWord)
def wsX2_bestSet_r1 : List Cond := [Cond.fieldLink RX2 93 "ChoirPlanner" "pieceCount" "I", Cond.methodLink RX2 209 yX2_singableSet, Cond.instanceMethod yX2_singableSet, Cond.selects RX2 yX2_singableSet yX2_singableSet, Cond.initialized RX2, Cond.code yX2_singableSet cX2_singableSet 4 (some .int), Cond.methodLink RX2 102 yX2_pieceAt, Cond.instanceMethod yX2_pieceAt, Cond.selects RX2 yX2_pieceAt yX2_pieceAt, Cond.code yX2_pieceAt cX2_pieceAt 3 (some (.object "ChoirPlanner$Piece")), Cond.classLink RX2 137 "java/lang/IndexOutOfBoundsException", Cond.initialized "java/lang/IndexOutOfBoundsException", Cond.fieldLink RX2 18 "ChoirPlanner" "pieces" "[LChoirPlanner$Piece;", Cond.methodLink RX2 145 yX2_nearestShift, Cond.instanceMethod yX2_nearestShift, Cond.selects RX2 yX2_nearestShift yX2_nearestShift, Cond.code yX2_nearestShift cX2_nearestShift 6 (some .int), Cond.fieldLink RX2 12 "ChoirPlanner" "roster" "LChoirPlanner$Roster;", Cond.methodLink RX2 198 Lib.Math.max.name, Cond.static Lib.Math.max.name, Cond.initialized "java/lang/Math", Cond.code Lib.Math.max.name Lib.Math.max.code 2 (some .int), Cond.methodLink RX2 206 Lib.Math.min.name, Cond.static Lib.Math.min.name]
def wsX2_bestSet_r2 : List Cond := [Cond.code Lib.Math.min.name Lib.Math.min.code 2 (some .int), Cond.methodLink RX2 73 yX1_firstTone, Cond.instanceMethod yX1_firstTone, Cond.selects RX1 yX1_firstTone yX1_firstTone, Cond.initialized RX1, Cond.code yX1_firstTone cX1_firstTone 5 (some .int), Cond.fieldLink RX1 24 "ChoirPlanner$Roster" "size" "I", Cond.fieldLink RX1 15 "ChoirPlanner$Roster" "lowest" "[I", Cond.methodLink RX1 32 Lib.Math.max.name, Cond.methodLink RX1 28 yX1_sings, Cond.instanceMethod yX1_sings, Cond.selects RX1 yX1_sings yX1_sings, Cond.code yX1_sings cX1_sings 4 (some .boolean), Cond.fieldLink RX1 9 "ChoirPlanner$Roster" "voices" "[I", Cond.methodLink RX1 41 yX1_isThere, Cond.instanceMethod yX1_isThere, Cond.selects RX1 yX1_isThere yX1_isThere, Cond.code yX1_isThere cX1_isThere 3 (some .boolean), Cond.fieldLink RX1 21 "ChoirPlanner$Roster" "away" "[I", Cond.methodLink RX2 195 yX0_lowestTone, Cond.instanceMethod yX0_lowestTone, Cond.selects RX0 yX0_lowestTone yX0_lowestTone, Cond.initialized RX0, Cond.code yX0_lowestTone cX0_lowestTone 4 (some .int)]
def wsX2_bestSet_r3 : List Cond := [Cond.fieldLink RX0 21 "ChoirPlanner$Piece" "size" "I", Cond.methodLink RX0 36 Lib.Math.min.name, Cond.methodLink RX0 32 yX0_toneAt, Cond.instanceMethod yX0_toneAt, Cond.selects RX0 yX0_toneAt yX0_toneAt, Cond.code yX0_toneAt cX0_toneAt 3 (some .int), Cond.fieldLink RX0 9 "ChoirPlanner$Piece" "tones" "[I", Cond.methodLink RX2 76 yX1_lastTone, Cond.instanceMethod yX1_lastTone, Cond.selects RX1 yX1_lastTone yX1_lastTone, Cond.code yX1_lastTone cX1_lastTone 5 (some .int), Cond.fieldLink RX1 18 "ChoirPlanner$Roster" "highest" "[I", Cond.methodLink RX1 38 Lib.Math.min.name, Cond.methodLink RX2 203 yX0_highestTone, Cond.instanceMethod yX0_highestTone, Cond.selects RX0 yX0_highestTone yX0_highestTone, Cond.code yX0_highestTone cX0_highestTone 4 (some .int), Cond.methodLink RX0 41 Lib.Math.max.name, Cond.methodLink RX2 160 yX2_lengthOf, Cond.instanceMethod yX2_lengthOf, Cond.selects RX2 yX2_lengthOf yX2_lengthOf, Cond.code yX2_lengthOf cX2_lengthOf 4 (some .int), Cond.methodLink RX2 215 yX0_length, Cond.instanceMethod yX0_length]
def wsX2_bestSet_r4 : List Cond := [Cond.selects RX0 yX0_length yX0_length, Cond.code yX0_length cX0_length 1 (some .int), Cond.fieldLink RX0 25 "ChoirPlanner$Piece" "seconds" "I", Cond.methodLink RX2 212 yX2_isBetter, Cond.instanceMethod yX2_isBetter, Cond.selects RX2 yX2_isBetter yX2_isBetter, Cond.code yX2_isBetter cX2_isBetter 7 (some .boolean), Cond.methodLink RX2 218 yJ6_bitCount_0f7a4, Cond.static yJ6_bitCount_0f7a4, Cond.initialized RJ6, Cond.code yJ6_bitCount_0f7a4 cJ6_bitCount_0f7a4 1 (some .int), Cond.constant RJ6 265 (1431655765), Cond.constant RJ6 266 (858993459), Cond.constant RJ6 267 (252645135)]
def wsX2_bestSet : List Cond := .code yX2_bestSet cX2_bestSet 6 (some .int) :: ((wsX2_bestSet_r1 ++ (wsX2_bestSet_r2 ++ (wsX2_bestSet_r3 ++ wsX2_bestSet_r4))) ++ wsX20 ++ wsX10 ++ wsX00 ++ (vx_atS RX2 141 "java/lang/IndexOutOfBoundsException" ["java/lang/RuntimeException", "java/lang/Exception"]).filter goodWord)
def wsX2_programme_r1 : List Cond := [Cond.methodLink RX2 58 yX2_checkDate, Cond.static yX2_checkDate, Cond.initialized RX2, Cond.code yX2_checkDate cX2_checkDate 1 none, Cond.classLink RX2 35 "java/lang/IllegalArgumentException", Cond.initialized "java/lang/IllegalArgumentException", Cond.methodLink RX2 154 yX2_checkTime, Cond.static yX2_checkTime, Cond.code yX2_checkTime cX2_checkTime 1 none, Cond.methodLink RX2 157 yX2_bestSet, Cond.instanceMethod yX2_bestSet, Cond.selects RX2 yX2_bestSet yX2_bestSet, Cond.code yX2_bestSet cX2_bestSet 6 (some .int), Cond.fieldLink RX2 93 "ChoirPlanner" "pieceCount" "I", Cond.methodLink RX2 209 yX2_singableSet, Cond.instanceMethod yX2_singableSet, Cond.selects RX2 yX2_singableSet yX2_singableSet, Cond.code yX2_singableSet cX2_singableSet 4 (some .int), Cond.methodLink RX2 102 yX2_pieceAt, Cond.instanceMethod yX2_pieceAt, Cond.selects RX2 yX2_pieceAt yX2_pieceAt, Cond.code yX2_pieceAt cX2_pieceAt 3 (some (.object "ChoirPlanner$Piece")), Cond.classLink RX2 137 "java/lang/IndexOutOfBoundsException", Cond.initialized "java/lang/IndexOutOfBoundsException"]
def wsX2_programme_r2 : List Cond := [Cond.fieldLink RX2 18 "ChoirPlanner" "pieces" "[LChoirPlanner$Piece;", Cond.methodLink RX2 145 yX2_nearestShift, Cond.instanceMethod yX2_nearestShift, Cond.selects RX2 yX2_nearestShift yX2_nearestShift, Cond.code yX2_nearestShift cX2_nearestShift 6 (some .int), Cond.fieldLink RX2 12 "ChoirPlanner" "roster" "LChoirPlanner$Roster;", Cond.methodLink RX2 198 Lib.Math.max.name, Cond.static Lib.Math.max.name, Cond.initialized "java/lang/Math", Cond.code Lib.Math.max.name Lib.Math.max.code 2 (some .int), Cond.methodLink RX2 206 Lib.Math.min.name, Cond.static Lib.Math.min.name, Cond.code Lib.Math.min.name Lib.Math.min.code 2 (some .int), Cond.methodLink RX2 73 yX1_firstTone, Cond.instanceMethod yX1_firstTone, Cond.selects RX1 yX1_firstTone yX1_firstTone, Cond.initialized RX1, Cond.code yX1_firstTone cX1_firstTone 5 (some .int), Cond.fieldLink RX1 24 "ChoirPlanner$Roster" "size" "I", Cond.fieldLink RX1 15 "ChoirPlanner$Roster" "lowest" "[I", Cond.methodLink RX1 32 Lib.Math.max.name, Cond.methodLink RX1 28 yX1_sings, Cond.instanceMethod yX1_sings, Cond.selects RX1 yX1_sings yX1_sings]
def wsX2_programme_r3 : List Cond := [Cond.code yX1_sings cX1_sings 4 (some .boolean), Cond.fieldLink RX1 9 "ChoirPlanner$Roster" "voices" "[I", Cond.methodLink RX1 41 yX1_isThere, Cond.instanceMethod yX1_isThere, Cond.selects RX1 yX1_isThere yX1_isThere, Cond.code yX1_isThere cX1_isThere 3 (some .boolean), Cond.fieldLink RX1 21 "ChoirPlanner$Roster" "away" "[I", Cond.methodLink RX2 195 yX0_lowestTone, Cond.instanceMethod yX0_lowestTone, Cond.selects RX0 yX0_lowestTone yX0_lowestTone, Cond.initialized RX0, Cond.code yX0_lowestTone cX0_lowestTone 4 (some .int), Cond.fieldLink RX0 21 "ChoirPlanner$Piece" "size" "I", Cond.methodLink RX0 36 Lib.Math.min.name, Cond.methodLink RX0 32 yX0_toneAt, Cond.instanceMethod yX0_toneAt, Cond.selects RX0 yX0_toneAt yX0_toneAt, Cond.code yX0_toneAt cX0_toneAt 3 (some .int), Cond.fieldLink RX0 9 "ChoirPlanner$Piece" "tones" "[I", Cond.methodLink RX2 76 yX1_lastTone, Cond.instanceMethod yX1_lastTone, Cond.selects RX1 yX1_lastTone yX1_lastTone, Cond.code yX1_lastTone cX1_lastTone 5 (some .int), Cond.fieldLink RX1 18 "ChoirPlanner$Roster" "highest" "[I"]
def wsX2_programme_r4 : List Cond := [Cond.methodLink RX1 38 Lib.Math.min.name, Cond.methodLink RX2 203 yX0_highestTone, Cond.instanceMethod yX0_highestTone, Cond.selects RX0 yX0_highestTone yX0_highestTone, Cond.code yX0_highestTone cX0_highestTone 4 (some .int), Cond.methodLink RX0 41 Lib.Math.max.name, Cond.methodLink RX2 160 yX2_lengthOf, Cond.instanceMethod yX2_lengthOf, Cond.selects RX2 yX2_lengthOf yX2_lengthOf, Cond.code yX2_lengthOf cX2_lengthOf 4 (some .int), Cond.methodLink RX2 215 yX0_length, Cond.instanceMethod yX0_length, Cond.selects RX0 yX0_length yX0_length, Cond.code yX0_length cX0_length 1 (some .int), Cond.fieldLink RX0 25 "ChoirPlanner$Piece" "seconds" "I", Cond.methodLink RX2 212 yX2_isBetter, Cond.instanceMethod yX2_isBetter, Cond.selects RX2 yX2_isBetter yX2_isBetter, Cond.code yX2_isBetter cX2_isBetter 7 (some .boolean), Cond.methodLink RX2 218 yJ6_bitCount_0f7a4, Cond.static yJ6_bitCount_0f7a4, Cond.initialized RJ6, Cond.code yJ6_bitCount_0f7a4 cJ6_bitCount_0f7a4 1 (some .int), Cond.constant RJ6 265 (1431655765)]
def wsX2_programme_r5 : List Cond := [Cond.constant RJ6 266 (858993459), Cond.constant RJ6 267 (252645135)]
def wsX2_programme : List Cond := .code yX2_programme cX2_programme 3 (some .int) :: ((wsX2_programme_r1 ++ (wsX2_programme_r2 ++ (wsX2_programme_r3 ++ (wsX2_programme_r4 ++ wsX2_programme_r5)))) ++ wsX20 ++ wsX10 ++ wsX00 ++ (vx_atS RX2 39 "java/lang/IllegalArgumentException" ["java/lang/RuntimeException", "java/lang/Exception"]).filter goodWord ++ (vx_atS RX2 141 "java/lang/IndexOutOfBoundsException" ["java/lang/RuntimeException", "java/lang/Exception"]).filter goodWord)
def wsX2_duration_r1 : List Cond := [Cond.methodLink RX2 58 yX2_checkDate, Cond.static yX2_checkDate, Cond.initialized RX2, Cond.code yX2_checkDate cX2_checkDate 1 none, Cond.classLink RX2 35 "java/lang/IllegalArgumentException", Cond.initialized "java/lang/IllegalArgumentException", Cond.methodLink RX2 154 yX2_checkTime, Cond.static yX2_checkTime, Cond.code yX2_checkTime cX2_checkTime 1 none, Cond.methodLink RX2 157 yX2_bestSet, Cond.instanceMethod yX2_bestSet, Cond.selects RX2 yX2_bestSet yX2_bestSet, Cond.code yX2_bestSet cX2_bestSet 6 (some .int), Cond.fieldLink RX2 93 "ChoirPlanner" "pieceCount" "I", Cond.methodLink RX2 209 yX2_singableSet, Cond.instanceMethod yX2_singableSet, Cond.selects RX2 yX2_singableSet yX2_singableSet, Cond.code yX2_singableSet cX2_singableSet 4 (some .int), Cond.methodLink RX2 102 yX2_pieceAt, Cond.instanceMethod yX2_pieceAt, Cond.selects RX2 yX2_pieceAt yX2_pieceAt, Cond.code yX2_pieceAt cX2_pieceAt 3 (some (.object "ChoirPlanner$Piece")), Cond.classLink RX2 137 "java/lang/IndexOutOfBoundsException", Cond.initialized "java/lang/IndexOutOfBoundsException"]
def wsX2_duration_r2 : List Cond := [Cond.fieldLink RX2 18 "ChoirPlanner" "pieces" "[LChoirPlanner$Piece;", Cond.methodLink RX2 145 yX2_nearestShift, Cond.instanceMethod yX2_nearestShift, Cond.selects RX2 yX2_nearestShift yX2_nearestShift, Cond.code yX2_nearestShift cX2_nearestShift 6 (some .int), Cond.fieldLink RX2 12 "ChoirPlanner" "roster" "LChoirPlanner$Roster;", Cond.methodLink RX2 198 Lib.Math.max.name, Cond.static Lib.Math.max.name, Cond.initialized "java/lang/Math", Cond.code Lib.Math.max.name Lib.Math.max.code 2 (some .int), Cond.methodLink RX2 206 Lib.Math.min.name, Cond.static Lib.Math.min.name, Cond.code Lib.Math.min.name Lib.Math.min.code 2 (some .int), Cond.methodLink RX2 73 yX1_firstTone, Cond.instanceMethod yX1_firstTone, Cond.selects RX1 yX1_firstTone yX1_firstTone, Cond.initialized RX1, Cond.code yX1_firstTone cX1_firstTone 5 (some .int), Cond.fieldLink RX1 24 "ChoirPlanner$Roster" "size" "I", Cond.fieldLink RX1 15 "ChoirPlanner$Roster" "lowest" "[I", Cond.methodLink RX1 32 Lib.Math.max.name, Cond.methodLink RX1 28 yX1_sings, Cond.instanceMethod yX1_sings, Cond.selects RX1 yX1_sings yX1_sings]
def wsX2_duration_r3 : List Cond := [Cond.code yX1_sings cX1_sings 4 (some .boolean), Cond.fieldLink RX1 9 "ChoirPlanner$Roster" "voices" "[I", Cond.methodLink RX1 41 yX1_isThere, Cond.instanceMethod yX1_isThere, Cond.selects RX1 yX1_isThere yX1_isThere, Cond.code yX1_isThere cX1_isThere 3 (some .boolean), Cond.fieldLink RX1 21 "ChoirPlanner$Roster" "away" "[I", Cond.methodLink RX2 195 yX0_lowestTone, Cond.instanceMethod yX0_lowestTone, Cond.selects RX0 yX0_lowestTone yX0_lowestTone, Cond.initialized RX0, Cond.code yX0_lowestTone cX0_lowestTone 4 (some .int), Cond.fieldLink RX0 21 "ChoirPlanner$Piece" "size" "I", Cond.methodLink RX0 36 Lib.Math.min.name, Cond.methodLink RX0 32 yX0_toneAt, Cond.instanceMethod yX0_toneAt, Cond.selects RX0 yX0_toneAt yX0_toneAt, Cond.code yX0_toneAt cX0_toneAt 3 (some .int), Cond.fieldLink RX0 9 "ChoirPlanner$Piece" "tones" "[I", Cond.methodLink RX2 76 yX1_lastTone, Cond.instanceMethod yX1_lastTone, Cond.selects RX1 yX1_lastTone yX1_lastTone, Cond.code yX1_lastTone cX1_lastTone 5 (some .int), Cond.fieldLink RX1 18 "ChoirPlanner$Roster" "highest" "[I"]
def wsX2_duration_r4 : List Cond := [Cond.methodLink RX1 38 Lib.Math.min.name, Cond.methodLink RX2 203 yX0_highestTone, Cond.instanceMethod yX0_highestTone, Cond.selects RX0 yX0_highestTone yX0_highestTone, Cond.code yX0_highestTone cX0_highestTone 4 (some .int), Cond.methodLink RX0 41 Lib.Math.max.name, Cond.methodLink RX2 160 yX2_lengthOf, Cond.instanceMethod yX2_lengthOf, Cond.selects RX2 yX2_lengthOf yX2_lengthOf, Cond.code yX2_lengthOf cX2_lengthOf 4 (some .int), Cond.methodLink RX2 215 yX0_length, Cond.instanceMethod yX0_length, Cond.selects RX0 yX0_length yX0_length, Cond.code yX0_length cX0_length 1 (some .int), Cond.fieldLink RX0 25 "ChoirPlanner$Piece" "seconds" "I", Cond.methodLink RX2 212 yX2_isBetter, Cond.instanceMethod yX2_isBetter, Cond.selects RX2 yX2_isBetter yX2_isBetter, Cond.code yX2_isBetter cX2_isBetter 7 (some .boolean), Cond.methodLink RX2 218 yJ6_bitCount_0f7a4, Cond.static yJ6_bitCount_0f7a4, Cond.initialized RJ6, Cond.code yJ6_bitCount_0f7a4 cJ6_bitCount_0f7a4 1 (some .int), Cond.constant RJ6 265 (1431655765)]
def wsX2_duration_r5 : List Cond := [Cond.constant RJ6 266 (858993459), Cond.constant RJ6 267 (252645135)]
def wsX2_duration : List Cond := .code yX2_duration cX2_duration 3 (some .int) :: ((wsX2_duration_r1 ++ (wsX2_duration_r2 ++ (wsX2_duration_r3 ++ (wsX2_duration_r4 ++ wsX2_duration_r5)))) ++ wsX20 ++ wsX10 ++ wsX00 ++ (vx_atS RX2 39 "java/lang/IllegalArgumentException" ["java/lang/RuntimeException", "java/lang/Exception"]).filter goodWord ++ (vx_atS RX2 141 "java/lang/IndexOutOfBoundsException" ["java/lang/RuntimeException", "java/lang/Exception"]).filter goodWord)
def wsX2_rehearse_r1 : List Cond := [Cond.classLink RX2 35 "java/lang/IllegalArgumentException", Cond.initialized "java/lang/IllegalArgumentException", Cond.methodLink RX2 102 yX2_pieceAt, Cond.instanceMethod yX2_pieceAt, Cond.selects RX2 yX2_pieceAt yX2_pieceAt, Cond.initialized RX2, Cond.code yX2_pieceAt cX2_pieceAt 3 (some (.object "ChoirPlanner$Piece")), Cond.classLink RX2 137 "java/lang/IndexOutOfBoundsException", Cond.initialized "java/lang/IndexOutOfBoundsException", Cond.fieldLink RX2 93 "ChoirPlanner" "pieceCount" "I", Cond.fieldLink RX2 18 "ChoirPlanner" "pieces" "[LChoirPlanner$Piece;", Cond.methodLink RX2 165 yX0_practiseWeakest, Cond.instanceMethod yX0_practiseWeakest, Cond.selects RX0 yX0_practiseWeakest yX0_practiseWeakest, Cond.initialized RX0, Cond.code yX0_practiseWeakest cX0_practiseWeakest 1 none, Cond.fieldLink RX0 15 "ChoirPlanner$Piece" "practice" "[I", Cond.methodLink RX0 62 yX0_weakestChord, Cond.instanceMethod yX0_weakestChord, Cond.selects RX0 yX0_weakestChord yX0_weakestChord, Cond.code yX0_weakestChord cX0_weakestChord 3 (some .int), Cond.fieldLink RX0 21 "ChoirPlanner$Piece" "size" "I", Cond.methodLink RX0 58 yX0_weaknessOf, Cond.instanceMethod yX0_weaknessOf]
def wsX2_rehearse_r2 : List Cond := [Cond.selects RX0 yX0_weaknessOf yX0_weaknessOf, Cond.code yX0_weaknessOf cX0_weaknessOf 2 (some .int), Cond.fieldLink RX0 18 "ChoirPlanner$Piece" "moveFaults" "[I", Cond.methodLink RX0 41 Lib.Math.max.name, Cond.static Lib.Math.max.name, Cond.initialized "java/lang/Math", Cond.code Lib.Math.max.name Lib.Math.max.code 2 (some .int), Cond.methodLink RX2 168 yX0_weaknessSum, Cond.instanceMethod yX0_weaknessSum, Cond.selects RX0 yX0_weaknessSum yX0_weaknessSum, Cond.code yX0_weaknessSum cX0_weaknessSum 3 (some .int)]
def wsX2_rehearse : List Cond := .code yX2_rehearse cX2_rehearse 5 (some .int) :: ((wsX2_rehearse_r1 ++ wsX2_rehearse_r2) ++ wsX20 ++ wsX00 ++ (vx_atS RX2 39 "java/lang/IllegalArgumentException" ["java/lang/RuntimeException", "java/lang/Exception"]).filter goodWord ++ (vx_atS RX2 141 "java/lang/IndexOutOfBoundsException" ["java/lang/RuntimeException", "java/lang/Exception"]).filter goodWord)
def wsX2_weakness_r1 : List Cond := [Cond.methodLink RX2 102 yX2_pieceAt, Cond.instanceMethod yX2_pieceAt, Cond.selects RX2 yX2_pieceAt yX2_pieceAt, Cond.initialized RX2, Cond.code yX2_pieceAt cX2_pieceAt 3 (some (.object "ChoirPlanner$Piece")), Cond.classLink RX2 137 "java/lang/IndexOutOfBoundsException", Cond.initialized "java/lang/IndexOutOfBoundsException", Cond.fieldLink RX2 93 "ChoirPlanner" "pieceCount" "I", Cond.fieldLink RX2 18 "ChoirPlanner" "pieces" "[LChoirPlanner$Piece;", Cond.methodLink RX2 106 yX2_checkChord, Cond.static yX2_checkChord, Cond.code yX2_checkChord cX2_checkChord 2 none, Cond.methodLink RX2 190 yX0_has, Cond.instanceMethod yX0_has, Cond.selects RX0 yX0_has yX0_has, Cond.initialized RX0, Cond.code yX0_has cX0_has 2 (some .boolean), Cond.fieldLink RX0 21 "ChoirPlanner$Piece" "size" "I", Cond.methodLink RX2 171 yX0_weaknessOf, Cond.instanceMethod yX0_weaknessOf, Cond.selects RX0 yX0_weaknessOf yX0_weaknessOf, Cond.code yX0_weaknessOf cX0_weaknessOf 2 (some .int), Cond.fieldLink RX0 18 "ChoirPlanner$Piece" "moveFaults" "[I", Cond.fieldLink RX0 15 "ChoirPlanner$Piece" "practice" "[I"]
def wsX2_weakness_r2 : List Cond := [Cond.methodLink RX0 41 Lib.Math.max.name, Cond.static Lib.Math.max.name, Cond.initialized "java/lang/Math", Cond.code Lib.Math.max.name Lib.Math.max.code 2 (some .int)]
def wsX2_weakness : List Cond := .code yX2_weakness cX2_weakness 4 (some .int) :: ((wsX2_weakness_r1 ++ wsX2_weakness_r2) ++ wsX20 ++ wsX00 ++ (vx_atS RX2 141 "java/lang/IndexOutOfBoundsException" ["java/lang/RuntimeException", "java/lang/Exception"]).filter goodWord)
def wsX2_weakest_r1 : List Cond := [Cond.methodLink RX2 102 yX2_pieceAt, Cond.instanceMethod yX2_pieceAt, Cond.selects RX2 yX2_pieceAt yX2_pieceAt, Cond.initialized RX2, Cond.code yX2_pieceAt cX2_pieceAt 3 (some (.object "ChoirPlanner$Piece")), Cond.classLink RX2 137 "java/lang/IndexOutOfBoundsException", Cond.initialized "java/lang/IndexOutOfBoundsException", Cond.fieldLink RX2 93 "ChoirPlanner" "pieceCount" "I", Cond.fieldLink RX2 18 "ChoirPlanner" "pieces" "[LChoirPlanner$Piece;", Cond.methodLink RX2 174 yX0_weakestChord, Cond.instanceMethod yX0_weakestChord, Cond.selects RX0 yX0_weakestChord yX0_weakestChord, Cond.initialized RX0, Cond.code yX0_weakestChord cX0_weakestChord 3 (some .int), Cond.fieldLink RX0 21 "ChoirPlanner$Piece" "size" "I", Cond.methodLink RX0 58 yX0_weaknessOf, Cond.instanceMethod yX0_weaknessOf, Cond.selects RX0 yX0_weaknessOf yX0_weaknessOf, Cond.code yX0_weaknessOf cX0_weaknessOf 2 (some .int), Cond.fieldLink RX0 18 "ChoirPlanner$Piece" "moveFaults" "[I", Cond.fieldLink RX0 15 "ChoirPlanner$Piece" "practice" "[I", Cond.methodLink RX0 41 Lib.Math.max.name, Cond.static Lib.Math.max.name, Cond.initialized "java/lang/Math"]
def wsX2_weakest_r2 : List Cond := [Cond.code Lib.Math.max.name Lib.Math.max.code 2 (some .int)]
def wsX2_weakest : List Cond := .code yX2_weakest cX2_weakest 2 (some .int) :: ((wsX2_weakest_r1 ++ wsX2_weakest_r2) ++ wsX20 ++ wsX00 ++ (vx_atS RX2 141 "java/lang/IndexOutOfBoundsException" ["java/lang/RuntimeException", "java/lang/Exception"]).filter goodWord)
def wsX3_init : List Cond := .code yX3_init cX3_init 1 none :: ([.methodLink RX3 1 objectInit, .instanceMethod objectInit, .code objectInit ⟨#[0xb1]⟩ 1 none, .arrayClass .int, .fieldLink RX3 7 "ChoirPlannerModel" "voiceOf" "[I", .fieldLink RX3 13 "ChoirPlannerModel" "lows" "[I", .fieldLink RX3 16 "ChoirPlannerModel" "highs" "[I", .fieldLink RX3 19 "ChoirPlannerModel" "away" "[I", .fieldLink RX3 22 "ChoirPlannerModel" "tones" "[I", .fieldLink RX3 25 "ChoirPlannerModel" "chords" "[I", .fieldLink RX3 28 "ChoirPlannerModel" "lengths" "[I", .fieldLink RX3 31 "ChoirPlannerModel" "practice" "[I"] ++ wsX30)
def wsX3_thrown : List Cond := .code yX3_thrown cX3_thrown 1 (some .int) :: ([.fieldLink RX3 34 "ChoirPlannerModel" "refusal" "I"] ++ wsX30)
def wsX3_refused : List Cond := .code yX3_refused cX3_refused 2 (some .boolean) :: ([.fieldLink RX3 34 "ChoirPlannerModel" "refusal" "I"] ++ wsX30)
def wsX3_in : List Cond := .code yX3_in cX3_in 3 (some .boolean) :: ([])
def wsX3_isVoice : List Cond := .code yX3_isVoice cX3_isVoice 1 (some .boolean) :: ([.methodLink RX3 38 yX3_in, .static yX3_in, .initialized RX3, .code yX3_in cX3_in 3 (some .boolean)])
def wsX3_isDate : List Cond := .code yX3_isDate cX3_isDate 1 (some .boolean) :: ([.methodLink RX3 38 yX3_in, .static yX3_in, .initialized RX3, .code yX3_in cX3_in 3 (some .boolean)])
def wsX3_isTone : List Cond := .code yX3_isTone cX3_isTone 1 (some .boolean) :: ([.methodLink RX3 38 yX3_in, .static yX3_in, .initialized RX3, .code yX3_in cX3_in 3 (some .boolean)])
def wsX3_isSinger : List Cond := .code yX3_isSinger cX3_isSinger 2 (some .boolean) :: ([.fieldLink RX3 42 "ChoirPlannerModel" "singers" "I", .methodLink RX3 38 yX3_in, .static yX3_in, .initialized RX3, .code yX3_in cX3_in 3 (some .boolean)] ++ wsX30)
def wsX3_isPiece : List Cond := .code yX3_isPiece cX3_isPiece 2 (some .boolean) :: ([.fieldLink RX3 45 "ChoirPlannerModel" "pieces" "I", .methodLink RX3 38 yX3_in, .static yX3_in, .initialized RX3, .code yX3_in cX3_in 3 (some .boolean)] ++ wsX30)
def wsX3_isChord : List Cond := .code yX3_isChord cX3_isChord 3 (some .boolean) :: ([.fieldLink RX3 25 "ChoirPlannerModel" "chords" "[I", .methodLink RX3 48 yX3_isPiece, .instanceMethod yX3_isPiece, .selects RX3 yX3_isPiece yX3_isPiece, .initialized RX3, .code yX3_isPiece cX3_isPiece 2 (some .boolean), .fieldLink RX3 45 "ChoirPlannerModel" "pieces" "I", .methodLink RX3 38 yX3_in, .static yX3_in, .code yX3_in cX3_in 3 (some .boolean)] ++ wsX30)
def wsX3_addSinger : List Cond := .code yX3_addSinger cX3_addSinger 5 (some .int) :: ([.fieldLink RX3 42 "ChoirPlannerModel" "singers" "I", .fieldLink RX3 7 "ChoirPlannerModel" "voiceOf" "[I", .fieldLink RX3 13 "ChoirPlannerModel" "lows" "[I", .fieldLink RX3 16 "ChoirPlannerModel" "highs" "[I", .methodLink RX3 52 yX3_isVoice, .static yX3_isVoice, .initialized RX3, .code yX3_isVoice cX3_isVoice 1 (some .boolean), .methodLink RX3 38 yX3_in, .static yX3_in, .code yX3_in cX3_in 3 (some .boolean), .methodLink RX3 55 yX3_isTone, .static yX3_isTone, .code yX3_isTone cX3_isTone 1 (some .boolean), .methodLink RX3 58 yX3_refused, .instanceMethod yX3_refused, .selects RX3 yX3_refused yX3_refused, .code yX3_refused cX3_refused 2 (some .boolean), .fieldLink RX3 34 "ChoirPlannerModel" "refusal" "I"] ++ wsX30)
def wsX3_isThere : List Cond := .code yX3_isThere cX3_isThere 3 (some .boolean) :: ([.fieldLink RX3 19 "ChoirPlannerModel" "away" "[I"] ++ wsX30)
def wsX3_tell : List Cond := .code yX3_tell cX3_tell 5 (some .boolean) :: ([.fieldLink RX3 19 "ChoirPlannerModel" "away" "[I", .methodLink RX3 61 yX3_isSinger, .instanceMethod yX3_isSinger, .selects RX3 yX3_isSinger yX3_isSinger, .initialized RX3, .code yX3_isSinger cX3_isSinger 2 (some .boolean), .fieldLink RX3 42 "ChoirPlannerModel" "singers" "I", .methodLink RX3 38 yX3_in, .static yX3_in, .code yX3_in cX3_in 3 (some .boolean), .methodLink RX3 64 yX3_isDate, .static yX3_isDate, .code yX3_isDate cX3_isDate 1 (some .boolean), .methodLink RX3 58 yX3_refused, .instanceMethod yX3_refused, .selects RX3 yX3_refused yX3_refused, .code yX3_refused cX3_refused 2 (some .boolean), .fieldLink RX3 34 "ChoirPlannerModel" "refusal" "I", .methodLink RX3 67 yX3_isThere, .instanceMethod yX3_isThere, .selects RX3 yX3_isThere yX3_isThere, .code yX3_isThere cX3_isThere 3 (some .boolean)] ++ wsX30)
def wsX3_change : List Cond := .code yX3_change cX3_change 4 (some .int) :: ([.fieldLink RX3 7 "ChoirPlannerModel" "voiceOf" "[I", .methodLink RX3 61 yX3_isSinger, .instanceMethod yX3_isSinger, .selects RX3 yX3_isSinger yX3_isSinger, .initialized RX3, .code yX3_isSinger cX3_isSinger 2 (some .boolean), .fieldLink RX3 42 "ChoirPlannerModel" "singers" "I", .methodLink RX3 38 yX3_in, .static yX3_in, .code yX3_in cX3_in 3 (some .boolean), .methodLink RX3 52 yX3_isVoice, .static yX3_isVoice, .code yX3_isVoice cX3_isVoice 1 (some .boolean), .methodLink RX3 58 yX3_refused, .instanceMethod yX3_refused, .selects RX3 yX3_refused yX3_refused, .code yX3_refused cX3_refused 2 (some .boolean), .fieldLink RX3 34 "ChoirPlannerModel" "refusal" "I"] ++ wsX30)
def wsX3_firstOf : List Cond := .code yX3_firstOf cX3_firstOf 6 (some .int) :: ([.fieldLink RX3 42 "ChoirPlannerModel" "singers" "I", .fieldLink RX3 7 "ChoirPlannerModel" "voiceOf" "[I", .fieldLink RX3 13 "ChoirPlannerModel" "lows" "[I", .methodLink RX3 67 yX3_isThere, .instanceMethod yX3_isThere, .selects RX3 yX3_isThere yX3_isThere, .initialized RX3, .code yX3_isThere cX3_isThere 3 (some .boolean), .fieldLink RX3 19 "ChoirPlannerModel" "away" "[I"] ++ wsX30)
def wsX3_lastOf : List Cond := .code yX3_lastOf cX3_lastOf 6 (some .int) :: ([.fieldLink RX3 42 "ChoirPlannerModel" "singers" "I", .fieldLink RX3 7 "ChoirPlannerModel" "voiceOf" "[I", .fieldLink RX3 16 "ChoirPlannerModel" "highs" "[I", .methodLink RX3 67 yX3_isThere, .instanceMethod yX3_isThere, .selects RX3 yX3_isThere yX3_isThere, .initialized RX3, .code yX3_isThere cX3_isThere 3 (some .boolean), .fieldLink RX3 19 "ChoirPlannerModel" "away" "[I"] ++ wsX30)
def wsX3_range_r1 : List Cond := [Cond.methodLink RX3 52 yX3_isVoice, Cond.static yX3_isVoice, Cond.initialized RX3, Cond.code yX3_isVoice cX3_isVoice 1 (some .boolean), Cond.methodLink RX3 38 yX3_in, Cond.static yX3_in, Cond.code yX3_in cX3_in 3 (some .boolean), Cond.methodLink RX3 64 yX3_isDate, Cond.static yX3_isDate, Cond.code yX3_isDate cX3_isDate 1 (some .boolean), Cond.methodLink RX3 58 yX3_refused, Cond.instanceMethod yX3_refused, Cond.selects RX3 yX3_refused yX3_refused, Cond.code yX3_refused cX3_refused 2 (some .boolean), Cond.fieldLink RX3 34 "ChoirPlannerModel" "refusal" "I", Cond.methodLink RX3 71 yX3_firstOf, Cond.instanceMethod yX3_firstOf, Cond.selects RX3 yX3_firstOf yX3_firstOf, Cond.code yX3_firstOf cX3_firstOf 6 (some .int), Cond.fieldLink RX3 42 "ChoirPlannerModel" "singers" "I", Cond.fieldLink RX3 7 "ChoirPlannerModel" "voiceOf" "[I", Cond.fieldLink RX3 13 "ChoirPlannerModel" "lows" "[I", Cond.methodLink RX3 67 yX3_isThere, Cond.instanceMethod yX3_isThere]
def wsX3_range_r2 : List Cond := [Cond.selects RX3 yX3_isThere yX3_isThere, Cond.code yX3_isThere cX3_isThere 3 (some .boolean), Cond.fieldLink RX3 19 "ChoirPlannerModel" "away" "[I", Cond.methodLink RX3 75 yX3_lastOf, Cond.instanceMethod yX3_lastOf, Cond.selects RX3 yX3_lastOf yX3_lastOf, Cond.code yX3_lastOf cX3_lastOf 6 (some .int), Cond.fieldLink RX3 16 "ChoirPlannerModel" "highs" "[I"]
def wsX3_range : List Cond := .code yX3_range cX3_range 5 (some .int) :: ((wsX3_range_r1 ++ wsX3_range_r2) ++ wsX30)
def wsX3_chord : List Cond := .code yX3_chord cX3_chord 7 (some .int) :: ([.fieldLink RX3 25 "ChoirPlannerModel" "chords" "[I", .fieldLink RX3 45 "ChoirPlannerModel" "pieces" "I", .fieldLink RX3 22 "ChoirPlannerModel" "tones" "[I", .methodLink RX3 55 yX3_isTone, .static yX3_isTone, .initialized RX3, .code yX3_isTone cX3_isTone 1 (some .boolean), .methodLink RX3 38 yX3_in, .static yX3_in, .code yX3_in cX3_in 3 (some .boolean), .methodLink RX3 58 yX3_refused, .instanceMethod yX3_refused, .selects RX3 yX3_refused yX3_refused, .code yX3_refused cX3_refused 2 (some .boolean), .fieldLink RX3 34 "ChoirPlannerModel" "refusal" "I"] ++ wsX30)
def wsX3_addPiece : List Cond := .code yX3_addPiece cX3_addPiece 3 (some .int) :: ([.fieldLink RX3 25 "ChoirPlannerModel" "chords" "[I", .fieldLink RX3 45 "ChoirPlannerModel" "pieces" "I", .fieldLink RX3 28 "ChoirPlannerModel" "lengths" "[I", .methodLink RX3 38 yX3_in, .static yX3_in, .initialized RX3, .code yX3_in cX3_in 3 (some .boolean), .methodLink RX3 58 yX3_refused, .instanceMethod yX3_refused, .selects RX3 yX3_refused yX3_refused, .code yX3_refused cX3_refused 2 (some .boolean), .fieldLink RX3 34 "ChoirPlannerModel" "refusal" "I"] ++ wsX30)
def wsX3_toneAt : List Cond := .code yX3_toneAt cX3_toneAt 4 (some .int) :: ([.fieldLink RX3 22 "ChoirPlannerModel" "tones" "[I"] ++ wsX30)
def wsX3_floorOf : List Cond := .code yX3_floorOf cX3_floorOf 4 (some .int) :: ([.methodLink RX3 78 yX3_toneAt, .instanceMethod yX3_toneAt, .selects RX3 yX3_toneAt yX3_toneAt, .initialized RX3, .code yX3_toneAt cX3_toneAt 4 (some .int), .fieldLink RX3 22 "ChoirPlannerModel" "tones" "[I"] ++ wsX30)
def wsX3_roofOf : List Cond := .code yX3_roofOf cX3_roofOf 4 (some .int) :: ([.methodLink RX3 78 yX3_toneAt, .instanceMethod yX3_toneAt, .selects RX3 yX3_toneAt yX3_toneAt, .initialized RX3, .code yX3_toneAt cX3_toneAt 4 (some .int), .fieldLink RX3 22 "ChoirPlannerModel" "tones" "[I"] ++ wsX30)
def wsX3_setTone_r1 : List Cond := [Cond.fieldLink RX3 22 "ChoirPlannerModel" "tones" "[I", Cond.methodLink RX3 52 yX3_isVoice, Cond.static yX3_isVoice, Cond.initialized RX3, Cond.code yX3_isVoice cX3_isVoice 1 (some .boolean), Cond.methodLink RX3 38 yX3_in, Cond.static yX3_in, Cond.code yX3_in cX3_in 3 (some .boolean), Cond.methodLink RX3 55 yX3_isTone, Cond.static yX3_isTone, Cond.code yX3_isTone cX3_isTone 1 (some .boolean), Cond.methodLink RX3 82 yX3_isChord, Cond.instanceMethod yX3_isChord, Cond.selects RX3 yX3_isChord yX3_isChord, Cond.code yX3_isChord cX3_isChord 3 (some .boolean), Cond.fieldLink RX3 25 "ChoirPlannerModel" "chords" "[I", Cond.methodLink RX3 48 yX3_isPiece, Cond.instanceMethod yX3_isPiece, Cond.selects RX3 yX3_isPiece yX3_isPiece, Cond.code yX3_isPiece cX3_isPiece 2 (some .boolean), Cond.fieldLink RX3 45 "ChoirPlannerModel" "pieces" "I", Cond.methodLink RX3 85 yX3_floorOf, Cond.instanceMethod yX3_floorOf, Cond.selects RX3 yX3_floorOf yX3_floorOf]
def wsX3_setTone_r2 : List Cond := [Cond.code yX3_floorOf cX3_floorOf 4 (some .int), Cond.methodLink RX3 78 yX3_toneAt, Cond.instanceMethod yX3_toneAt, Cond.selects RX3 yX3_toneAt yX3_toneAt, Cond.code yX3_toneAt cX3_toneAt 4 (some .int), Cond.methodLink RX3 88 yX3_roofOf, Cond.instanceMethod yX3_roofOf, Cond.selects RX3 yX3_roofOf yX3_roofOf, Cond.code yX3_roofOf cX3_roofOf 4 (some .int), Cond.methodLink RX3 58 yX3_refused, Cond.instanceMethod yX3_refused, Cond.selects RX3 yX3_refused yX3_refused, Cond.code yX3_refused cX3_refused 2 (some .boolean), Cond.fieldLink RX3 34 "ChoirPlannerModel" "refusal" "I"]
def wsX3_setTone : List Cond := .code yX3_setTone cX3_setTone 8 (some .int) :: ((wsX3_setTone_r1 ++ wsX3_setTone_r2) ++ wsX30)
def wsX3_isParallel : List Cond := .code yX3_isParallel cX3_isParallel 8 (some .boolean) :: ([.methodLink RX3 78 yX3_toneAt, .instanceMethod yX3_toneAt, .selects RX3 yX3_toneAt yX3_toneAt, .initialized RX3, .code yX3_toneAt cX3_toneAt 4 (some .int), .fieldLink RX3 22 "ChoirPlannerModel" "tones" "[I"] ++ wsX30)
def wsX3_faultsOf : List Cond := .code yX3_faultsOf cX3_faultsOf 7 (some .int) :: ([.methodLink RX3 78 yX3_toneAt, .instanceMethod yX3_toneAt, .selects RX3 yX3_toneAt yX3_toneAt, .initialized RX3, .code yX3_toneAt cX3_toneAt 4 (some .int), .fieldLink RX3 22 "ChoirPlannerModel" "tones" "[I", .methodLink RX3 38 yX3_in, .static yX3_in, .code yX3_in cX3_in 3 (some .boolean), .methodLink RX3 91 yX3_isParallel, .instanceMethod yX3_isParallel, .selects RX3 yX3_isParallel yX3_isParallel, .code yX3_isParallel cX3_isParallel 8 (some .boolean)] ++ wsX30)
def wsX3_faultsAt_r1 : List Cond := [Cond.methodLink RX3 82 yX3_isChord, Cond.instanceMethod yX3_isChord, Cond.selects RX3 yX3_isChord yX3_isChord, Cond.initialized RX3, Cond.code yX3_isChord cX3_isChord 3 (some .boolean), Cond.fieldLink RX3 25 "ChoirPlannerModel" "chords" "[I", Cond.methodLink RX3 48 yX3_isPiece, Cond.instanceMethod yX3_isPiece, Cond.selects RX3 yX3_isPiece yX3_isPiece, Cond.code yX3_isPiece cX3_isPiece 2 (some .boolean), Cond.fieldLink RX3 45 "ChoirPlannerModel" "pieces" "I", Cond.methodLink RX3 38 yX3_in, Cond.static yX3_in, Cond.code yX3_in cX3_in 3 (some .boolean), Cond.methodLink RX3 58 yX3_refused, Cond.instanceMethod yX3_refused, Cond.selects RX3 yX3_refused yX3_refused, Cond.code yX3_refused cX3_refused 2 (some .boolean), Cond.fieldLink RX3 34 "ChoirPlannerModel" "refusal" "I", Cond.methodLink RX3 95 yX3_faultsOf, Cond.instanceMethod yX3_faultsOf, Cond.selects RX3 yX3_faultsOf yX3_faultsOf, Cond.code yX3_faultsOf cX3_faultsOf 7 (some .int), Cond.methodLink RX3 78 yX3_toneAt]
def wsX3_faultsAt_r2 : List Cond := [Cond.instanceMethod yX3_toneAt, Cond.selects RX3 yX3_toneAt yX3_toneAt, Cond.code yX3_toneAt cX3_toneAt 4 (some .int), Cond.fieldLink RX3 22 "ChoirPlannerModel" "tones" "[I", Cond.methodLink RX3 91 yX3_isParallel, Cond.instanceMethod yX3_isParallel, Cond.selects RX3 yX3_isParallel yX3_isParallel, Cond.code yX3_isParallel cX3_isParallel 8 (some .boolean)]
def wsX3_faultsAt : List Cond := .code yX3_faultsAt cX3_faultsAt 3 (some .int) :: ((wsX3_faultsAt_r1 ++ wsX3_faultsAt_r2) ++ wsX30)
def wsX3_allFaults : List Cond := .code yX3_allFaults cX3_allFaults 4 (some .int) :: ([.fieldLink RX3 25 "ChoirPlannerModel" "chords" "[I", .methodLink RX3 95 yX3_faultsOf, .instanceMethod yX3_faultsOf, .selects RX3 yX3_faultsOf yX3_faultsOf, .initialized RX3, .code yX3_faultsOf cX3_faultsOf 7 (some .int), .methodLink RX3 78 yX3_toneAt, .instanceMethod yX3_toneAt, .selects RX3 yX3_toneAt yX3_toneAt, .code yX3_toneAt cX3_toneAt 4 (some .int), .fieldLink RX3 22 "ChoirPlannerModel" "tones" "[I", .methodLink RX3 38 yX3_in, .static yX3_in, .code yX3_in cX3_in 3 (some .boolean), .methodLink RX3 91 yX3_isParallel, .instanceMethod yX3_isParallel, .selects RX3 yX3_isParallel yX3_isParallel, .code yX3_isParallel cX3_isParallel 8 (some .boolean)] ++ wsX30)
def wsX3_faults_r1 : List Cond := [Cond.methodLink RX3 48 yX3_isPiece, Cond.instanceMethod yX3_isPiece, Cond.selects RX3 yX3_isPiece yX3_isPiece, Cond.initialized RX3, Cond.code yX3_isPiece cX3_isPiece 2 (some .boolean), Cond.fieldLink RX3 45 "ChoirPlannerModel" "pieces" "I", Cond.methodLink RX3 38 yX3_in, Cond.static yX3_in, Cond.code yX3_in cX3_in 3 (some .boolean), Cond.methodLink RX3 58 yX3_refused, Cond.instanceMethod yX3_refused, Cond.selects RX3 yX3_refused yX3_refused, Cond.code yX3_refused cX3_refused 2 (some .boolean), Cond.fieldLink RX3 34 "ChoirPlannerModel" "refusal" "I", Cond.methodLink RX3 98 yX3_allFaults, Cond.instanceMethod yX3_allFaults, Cond.selects RX3 yX3_allFaults yX3_allFaults, Cond.code yX3_allFaults cX3_allFaults 4 (some .int), Cond.fieldLink RX3 25 "ChoirPlannerModel" "chords" "[I", Cond.methodLink RX3 95 yX3_faultsOf, Cond.instanceMethod yX3_faultsOf, Cond.selects RX3 yX3_faultsOf yX3_faultsOf, Cond.code yX3_faultsOf cX3_faultsOf 7 (some .int), Cond.methodLink RX3 78 yX3_toneAt]
def wsX3_faults_r2 : List Cond := [Cond.instanceMethod yX3_toneAt, Cond.selects RX3 yX3_toneAt yX3_toneAt, Cond.code yX3_toneAt cX3_toneAt 4 (some .int), Cond.fieldLink RX3 22 "ChoirPlannerModel" "tones" "[I", Cond.methodLink RX3 91 yX3_isParallel, Cond.instanceMethod yX3_isParallel, Cond.selects RX3 yX3_isParallel yX3_isParallel, Cond.code yX3_isParallel cX3_isParallel 8 (some .boolean)]
def wsX3_faults : List Cond := .code yX3_faults cX3_faults 2 (some .int) :: ((wsX3_faults_r1 ++ wsX3_faults_r2) ++ wsX30)
def wsX3_leastFaults_r1 : List Cond := [Cond.fieldLink RX3 25 "ChoirPlannerModel" "chords" "[I", Cond.fieldLink RX3 22 "ChoirPlannerModel" "tones" "[I", Cond.methodLink RX3 82 yX3_isChord, Cond.instanceMethod yX3_isChord, Cond.selects RX3 yX3_isChord yX3_isChord, Cond.initialized RX3, Cond.code yX3_isChord cX3_isChord 3 (some .boolean), Cond.methodLink RX3 48 yX3_isPiece, Cond.instanceMethod yX3_isPiece, Cond.selects RX3 yX3_isPiece yX3_isPiece, Cond.code yX3_isPiece cX3_isPiece 2 (some .boolean), Cond.fieldLink RX3 45 "ChoirPlannerModel" "pieces" "I", Cond.methodLink RX3 38 yX3_in, Cond.static yX3_in, Cond.code yX3_in cX3_in 3 (some .boolean), Cond.methodLink RX3 52 yX3_isVoice, Cond.static yX3_isVoice, Cond.code yX3_isVoice cX3_isVoice 1 (some .boolean), Cond.methodLink RX3 58 yX3_refused, Cond.instanceMethod yX3_refused, Cond.selects RX3 yX3_refused yX3_refused, Cond.code yX3_refused cX3_refused 2 (some .boolean), Cond.fieldLink RX3 34 "ChoirPlannerModel" "refusal" "I", Cond.methodLink RX3 78 yX3_toneAt]
def wsX3_leastFaults_r2 : List Cond := [Cond.instanceMethod yX3_toneAt, Cond.selects RX3 yX3_toneAt yX3_toneAt, Cond.code yX3_toneAt cX3_toneAt 4 (some .int), Cond.methodLink RX3 98 yX3_allFaults, Cond.instanceMethod yX3_allFaults, Cond.selects RX3 yX3_allFaults yX3_allFaults, Cond.code yX3_allFaults cX3_allFaults 4 (some .int), Cond.methodLink RX3 95 yX3_faultsOf, Cond.instanceMethod yX3_faultsOf, Cond.selects RX3 yX3_faultsOf yX3_faultsOf, Cond.code yX3_faultsOf cX3_faultsOf 7 (some .int), Cond.methodLink RX3 91 yX3_isParallel, Cond.instanceMethod yX3_isParallel, Cond.selects RX3 yX3_isParallel yX3_isParallel, Cond.code yX3_isParallel cX3_isParallel 8 (some .boolean), Cond.methodLink RX3 88 yX3_roofOf, Cond.instanceMethod yX3_roofOf, Cond.selects RX3 yX3_roofOf yX3_roofOf, Cond.code yX3_roofOf cX3_roofOf 4 (some .int), Cond.methodLink RX3 85 yX3_floorOf, Cond.instanceMethod yX3_floorOf, Cond.selects RX3 yX3_floorOf yX3_floorOf, Cond.code yX3_floorOf cX3_floorOf 4 (some .int)]
def wsX3_leastFaults : List Cond := .code yX3_leastFaults cX3_leastFaults 10 (some .int) :: ((wsX3_leastFaults_r1 ++ wsX3_leastFaults_r2) ++ wsX30)
def wsX3_fits_r1 : List Cond := [Cond.fieldLink RX3 25 "ChoirPlannerModel" "chords" "[I", Cond.methodLink RX3 71 yX3_firstOf, Cond.instanceMethod yX3_firstOf, Cond.selects RX3 yX3_firstOf yX3_firstOf, Cond.initialized RX3, Cond.code yX3_firstOf cX3_firstOf 6 (some .int), Cond.fieldLink RX3 42 "ChoirPlannerModel" "singers" "I", Cond.fieldLink RX3 7 "ChoirPlannerModel" "voiceOf" "[I", Cond.fieldLink RX3 13 "ChoirPlannerModel" "lows" "[I", Cond.methodLink RX3 67 yX3_isThere, Cond.instanceMethod yX3_isThere, Cond.selects RX3 yX3_isThere yX3_isThere, Cond.code yX3_isThere cX3_isThere 3 (some .boolean), Cond.fieldLink RX3 19 "ChoirPlannerModel" "away" "[I", Cond.methodLink RX3 75 yX3_lastOf, Cond.instanceMethod yX3_lastOf, Cond.selects RX3 yX3_lastOf yX3_lastOf, Cond.code yX3_lastOf cX3_lastOf 6 (some .int), Cond.fieldLink RX3 16 "ChoirPlannerModel" "highs" "[I", Cond.methodLink RX3 78 yX3_toneAt, Cond.instanceMethod yX3_toneAt, Cond.selects RX3 yX3_toneAt yX3_toneAt, Cond.code yX3_toneAt cX3_toneAt 4 (some .int), Cond.fieldLink RX3 22 "ChoirPlannerModel" "tones" "[I"]
def wsX3_fits_r2 : List Cond := [Cond.methodLink RX3 38 yX3_in, Cond.static yX3_in, Cond.code yX3_in cX3_in 3 (some .boolean)]
def wsX3_fits : List Cond := .code yX3_fits cX3_fits 9 (some .boolean) :: ((wsX3_fits_r1 ++ wsX3_fits_r2) ++ wsX30)
def wsX3_shiftOf_r1 : List Cond := [Cond.methodLink RX3 102 yX3_fits, Cond.instanceMethod yX3_fits, Cond.selects RX3 yX3_fits yX3_fits, Cond.initialized RX3, Cond.code yX3_fits cX3_fits 9 (some .boolean), Cond.fieldLink RX3 25 "ChoirPlannerModel" "chords" "[I", Cond.methodLink RX3 71 yX3_firstOf, Cond.instanceMethod yX3_firstOf, Cond.selects RX3 yX3_firstOf yX3_firstOf, Cond.code yX3_firstOf cX3_firstOf 6 (some .int), Cond.fieldLink RX3 42 "ChoirPlannerModel" "singers" "I", Cond.fieldLink RX3 7 "ChoirPlannerModel" "voiceOf" "[I", Cond.fieldLink RX3 13 "ChoirPlannerModel" "lows" "[I", Cond.methodLink RX3 67 yX3_isThere, Cond.instanceMethod yX3_isThere, Cond.selects RX3 yX3_isThere yX3_isThere, Cond.code yX3_isThere cX3_isThere 3 (some .boolean), Cond.fieldLink RX3 19 "ChoirPlannerModel" "away" "[I", Cond.methodLink RX3 75 yX3_lastOf, Cond.instanceMethod yX3_lastOf, Cond.selects RX3 yX3_lastOf yX3_lastOf, Cond.code yX3_lastOf cX3_lastOf 6 (some .int), Cond.fieldLink RX3 16 "ChoirPlannerModel" "highs" "[I", Cond.methodLink RX3 78 yX3_toneAt]
def wsX3_shiftOf_r2 : List Cond := [Cond.instanceMethod yX3_toneAt, Cond.selects RX3 yX3_toneAt yX3_toneAt, Cond.code yX3_toneAt cX3_toneAt 4 (some .int), Cond.fieldLink RX3 22 "ChoirPlannerModel" "tones" "[I", Cond.methodLink RX3 38 yX3_in, Cond.static yX3_in, Cond.code yX3_in cX3_in 3 (some .boolean)]
def wsX3_shiftOf : List Cond := .code yX3_shiftOf cX3_shiftOf 4 (some .int) :: ((wsX3_shiftOf_r1 ++ wsX3_shiftOf_r2) ++ wsX30)
def wsX3_shift_r1 : List Cond := [Cond.methodLink RX3 48 yX3_isPiece, Cond.instanceMethod yX3_isPiece, Cond.selects RX3 yX3_isPiece yX3_isPiece, Cond.initialized RX3, Cond.code yX3_isPiece cX3_isPiece 2 (some .boolean), Cond.fieldLink RX3 45 "ChoirPlannerModel" "pieces" "I", Cond.methodLink RX3 38 yX3_in, Cond.static yX3_in, Cond.code yX3_in cX3_in 3 (some .boolean), Cond.methodLink RX3 64 yX3_isDate, Cond.static yX3_isDate, Cond.code yX3_isDate cX3_isDate 1 (some .boolean), Cond.methodLink RX3 105 yX3_shiftOf, Cond.instanceMethod yX3_shiftOf, Cond.selects RX3 yX3_shiftOf yX3_shiftOf, Cond.code yX3_shiftOf cX3_shiftOf 4 (some .int), Cond.methodLink RX3 102 yX3_fits, Cond.instanceMethod yX3_fits, Cond.selects RX3 yX3_fits yX3_fits, Cond.code yX3_fits cX3_fits 9 (some .boolean), Cond.fieldLink RX3 25 "ChoirPlannerModel" "chords" "[I", Cond.methodLink RX3 71 yX3_firstOf, Cond.instanceMethod yX3_firstOf, Cond.selects RX3 yX3_firstOf yX3_firstOf]
def wsX3_shift_r2 : List Cond := [Cond.code yX3_firstOf cX3_firstOf 6 (some .int), Cond.fieldLink RX3 42 "ChoirPlannerModel" "singers" "I", Cond.fieldLink RX3 7 "ChoirPlannerModel" "voiceOf" "[I", Cond.fieldLink RX3 13 "ChoirPlannerModel" "lows" "[I", Cond.methodLink RX3 67 yX3_isThere, Cond.instanceMethod yX3_isThere, Cond.selects RX3 yX3_isThere yX3_isThere, Cond.code yX3_isThere cX3_isThere 3 (some .boolean), Cond.fieldLink RX3 19 "ChoirPlannerModel" "away" "[I", Cond.methodLink RX3 75 yX3_lastOf, Cond.instanceMethod yX3_lastOf, Cond.selects RX3 yX3_lastOf yX3_lastOf, Cond.code yX3_lastOf cX3_lastOf 6 (some .int), Cond.fieldLink RX3 16 "ChoirPlannerModel" "highs" "[I", Cond.methodLink RX3 78 yX3_toneAt, Cond.instanceMethod yX3_toneAt, Cond.selects RX3 yX3_toneAt yX3_toneAt, Cond.code yX3_toneAt cX3_toneAt 4 (some .int), Cond.fieldLink RX3 22 "ChoirPlannerModel" "tones" "[I", Cond.methodLink RX3 58 yX3_refused, Cond.instanceMethod yX3_refused, Cond.selects RX3 yX3_refused yX3_refused, Cond.code yX3_refused cX3_refused 2 (some .boolean), Cond.fieldLink RX3 34 "ChoirPlannerModel" "refusal" "I"]
def wsX3_shift : List Cond := .code yX3_shift cX3_shift 5 (some .int) :: ((wsX3_shift_r1 ++ wsX3_shift_r2) ++ wsX30)
def wsX3_dates_r1 : List Cond := [Cond.methodLink RX3 48 yX3_isPiece, Cond.instanceMethod yX3_isPiece, Cond.selects RX3 yX3_isPiece yX3_isPiece, Cond.initialized RX3, Cond.code yX3_isPiece cX3_isPiece 2 (some .boolean), Cond.fieldLink RX3 45 "ChoirPlannerModel" "pieces" "I", Cond.methodLink RX3 38 yX3_in, Cond.static yX3_in, Cond.code yX3_in cX3_in 3 (some .boolean), Cond.methodLink RX3 58 yX3_refused, Cond.instanceMethod yX3_refused, Cond.selects RX3 yX3_refused yX3_refused, Cond.code yX3_refused cX3_refused 2 (some .boolean), Cond.fieldLink RX3 34 "ChoirPlannerModel" "refusal" "I", Cond.methodLink RX3 105 yX3_shiftOf, Cond.instanceMethod yX3_shiftOf, Cond.selects RX3 yX3_shiftOf yX3_shiftOf, Cond.code yX3_shiftOf cX3_shiftOf 4 (some .int), Cond.methodLink RX3 102 yX3_fits, Cond.instanceMethod yX3_fits, Cond.selects RX3 yX3_fits yX3_fits, Cond.code yX3_fits cX3_fits 9 (some .boolean), Cond.fieldLink RX3 25 "ChoirPlannerModel" "chords" "[I", Cond.methodLink RX3 71 yX3_firstOf]
def wsX3_dates_r2 : List Cond := [Cond.instanceMethod yX3_firstOf, Cond.selects RX3 yX3_firstOf yX3_firstOf, Cond.code yX3_firstOf cX3_firstOf 6 (some .int), Cond.fieldLink RX3 42 "ChoirPlannerModel" "singers" "I", Cond.fieldLink RX3 7 "ChoirPlannerModel" "voiceOf" "[I", Cond.fieldLink RX3 13 "ChoirPlannerModel" "lows" "[I", Cond.methodLink RX3 67 yX3_isThere, Cond.instanceMethod yX3_isThere, Cond.selects RX3 yX3_isThere yX3_isThere, Cond.code yX3_isThere cX3_isThere 3 (some .boolean), Cond.fieldLink RX3 19 "ChoirPlannerModel" "away" "[I", Cond.methodLink RX3 75 yX3_lastOf, Cond.instanceMethod yX3_lastOf, Cond.selects RX3 yX3_lastOf yX3_lastOf, Cond.code yX3_lastOf cX3_lastOf 6 (some .int), Cond.fieldLink RX3 16 "ChoirPlannerModel" "highs" "[I", Cond.methodLink RX3 78 yX3_toneAt, Cond.instanceMethod yX3_toneAt, Cond.selects RX3 yX3_toneAt yX3_toneAt, Cond.code yX3_toneAt cX3_toneAt 4 (some .int), Cond.fieldLink RX3 22 "ChoirPlannerModel" "tones" "[I"]
def wsX3_dates : List Cond := .code yX3_dates cX3_dates 4 (some .int) :: ((wsX3_dates_r1 ++ wsX3_dates_r2) ++ wsX30)
def wsX3_missed : List Cond := .code yX3_missed cX3_missed 4 (some .int) :: ([.fieldLink RX3 42 "ChoirPlannerModel" "singers" "I", .fieldLink RX3 7 "ChoirPlannerModel" "voiceOf" "[I", .methodLink RX3 64 yX3_isDate, .static yX3_isDate, .initialized RX3, .code yX3_isDate cX3_isDate 1 (some .boolean), .methodLink RX3 38 yX3_in, .static yX3_in, .code yX3_in cX3_in 3 (some .boolean), .methodLink RX3 58 yX3_refused, .instanceMethod yX3_refused, .selects RX3 yX3_refused yX3_refused, .code yX3_refused cX3_refused 2 (some .boolean), .fieldLink RX3 34 "ChoirPlannerModel" "refusal" "I", .methodLink RX3 67 yX3_isThere, .instanceMethod yX3_isThere, .selects RX3 yX3_isThere yX3_isThere, .code yX3_isThere cX3_isThere 3 (some .boolean), .fieldLink RX3 19 "ChoirPlannerModel" "away" "[I", .methodLink RX3 71 yX3_firstOf, .instanceMethod yX3_firstOf, .selects RX3 yX3_firstOf yX3_firstOf, .code yX3_firstOf cX3_firstOf 6 (some .int), .fieldLink RX3 13 "ChoirPlannerModel" "lows" "[I"] ++ wsX30)
def wsX3_lengthOf : List Cond := .code yX3_lengthOf cX3_lengthOf 4 (some .int) :: ([.fieldLink RX3 45 "ChoirPlannerModel" "pieces" "I", .fieldLink RX3 28 "ChoirPlannerModel" "lengths" "[I"] ++ wsX30)
def wsX3_bits : List Cond := .code yX3_bits cX3_bits 3 (some .int) :: ([])
def wsX3_isBetter : List Cond := .code yX3_isBetter cX3_isBetter 7 (some .boolean) :: ([.methodLink RX3 108 yX3_lengthOf, .instanceMethod yX3_lengthOf, .selects RX3 yX3_lengthOf yX3_lengthOf, .initialized RX3, .code yX3_lengthOf cX3_lengthOf 4 (some .int), .fieldLink RX3 45 "ChoirPlannerModel" "pieces" "I", .fieldLink RX3 28 "ChoirPlannerModel" "lengths" "[I", .methodLink RX3 111 yX3_bits, .static yX3_bits, .code yX3_bits cX3_bits 3 (some .int)] ++ wsX30)
def wsX3_planned_r1 : List Cond := [Cond.fieldLink RX3 45 "ChoirPlannerModel" "pieces" "I", Cond.methodLink RX3 105 yX3_shiftOf, Cond.instanceMethod yX3_shiftOf, Cond.selects RX3 yX3_shiftOf yX3_shiftOf, Cond.initialized RX3, Cond.code yX3_shiftOf cX3_shiftOf 4 (some .int), Cond.methodLink RX3 102 yX3_fits, Cond.instanceMethod yX3_fits, Cond.selects RX3 yX3_fits yX3_fits, Cond.code yX3_fits cX3_fits 9 (some .boolean), Cond.fieldLink RX3 25 "ChoirPlannerModel" "chords" "[I", Cond.methodLink RX3 71 yX3_firstOf, Cond.instanceMethod yX3_firstOf, Cond.selects RX3 yX3_firstOf yX3_firstOf, Cond.code yX3_firstOf cX3_firstOf 6 (some .int), Cond.fieldLink RX3 42 "ChoirPlannerModel" "singers" "I", Cond.fieldLink RX3 7 "ChoirPlannerModel" "voiceOf" "[I", Cond.fieldLink RX3 13 "ChoirPlannerModel" "lows" "[I", Cond.methodLink RX3 67 yX3_isThere, Cond.instanceMethod yX3_isThere, Cond.selects RX3 yX3_isThere yX3_isThere, Cond.code yX3_isThere cX3_isThere 3 (some .boolean), Cond.fieldLink RX3 19 "ChoirPlannerModel" "away" "[I", Cond.methodLink RX3 75 yX3_lastOf]
def wsX3_planned_r2 : List Cond := [Cond.instanceMethod yX3_lastOf, Cond.selects RX3 yX3_lastOf yX3_lastOf, Cond.code yX3_lastOf cX3_lastOf 6 (some .int), Cond.fieldLink RX3 16 "ChoirPlannerModel" "highs" "[I", Cond.methodLink RX3 78 yX3_toneAt, Cond.instanceMethod yX3_toneAt, Cond.selects RX3 yX3_toneAt yX3_toneAt, Cond.code yX3_toneAt cX3_toneAt 4 (some .int), Cond.fieldLink RX3 22 "ChoirPlannerModel" "tones" "[I", Cond.methodLink RX3 38 yX3_in, Cond.static yX3_in, Cond.code yX3_in cX3_in 3 (some .boolean), Cond.methodLink RX3 108 yX3_lengthOf, Cond.instanceMethod yX3_lengthOf, Cond.selects RX3 yX3_lengthOf yX3_lengthOf, Cond.code yX3_lengthOf cX3_lengthOf 4 (some .int), Cond.fieldLink RX3 28 "ChoirPlannerModel" "lengths" "[I", Cond.methodLink RX3 114 yX3_isBetter, Cond.instanceMethod yX3_isBetter, Cond.selects RX3 yX3_isBetter yX3_isBetter, Cond.code yX3_isBetter cX3_isBetter 7 (some .boolean), Cond.methodLink RX3 111 yX3_bits, Cond.static yX3_bits, Cond.code yX3_bits cX3_bits 3 (some .int)]
def wsX3_planned : List Cond := .code yX3_planned cX3_planned 7 (some .int) :: ((wsX3_planned_r1 ++ wsX3_planned_r2) ++ wsX30)
def wsX3_noDate : List Cond := .code yX3_noDate cX3_noDate 3 (some .boolean) :: ([.methodLink RX3 64 yX3_isDate, .static yX3_isDate, .initialized RX3, .code yX3_isDate cX3_isDate 1 (some .boolean), .methodLink RX3 38 yX3_in, .static yX3_in, .code yX3_in cX3_in 3 (some .boolean), .methodLink RX3 58 yX3_refused, .instanceMethod yX3_refused, .selects RX3 yX3_refused yX3_refused, .code yX3_refused cX3_refused 2 (some .boolean), .fieldLink RX3 34 "ChoirPlannerModel" "refusal" "I"] ++ wsX30)
def wsX3_programme_r1 : List Cond := [Cond.methodLink RX3 117 yX3_noDate, Cond.instanceMethod yX3_noDate, Cond.selects RX3 yX3_noDate yX3_noDate, Cond.initialized RX3, Cond.code yX3_noDate cX3_noDate 3 (some .boolean), Cond.methodLink RX3 64 yX3_isDate, Cond.static yX3_isDate, Cond.code yX3_isDate cX3_isDate 1 (some .boolean), Cond.methodLink RX3 38 yX3_in, Cond.static yX3_in, Cond.code yX3_in cX3_in 3 (some .boolean), Cond.methodLink RX3 58 yX3_refused, Cond.instanceMethod yX3_refused, Cond.selects RX3 yX3_refused yX3_refused, Cond.code yX3_refused cX3_refused 2 (some .boolean), Cond.fieldLink RX3 34 "ChoirPlannerModel" "refusal" "I", Cond.methodLink RX3 120 yX3_planned, Cond.instanceMethod yX3_planned, Cond.selects RX3 yX3_planned yX3_planned, Cond.code yX3_planned cX3_planned 7 (some .int), Cond.fieldLink RX3 45 "ChoirPlannerModel" "pieces" "I", Cond.methodLink RX3 105 yX3_shiftOf, Cond.instanceMethod yX3_shiftOf, Cond.selects RX3 yX3_shiftOf yX3_shiftOf]
def wsX3_programme_r2 : List Cond := [Cond.code yX3_shiftOf cX3_shiftOf 4 (some .int), Cond.methodLink RX3 102 yX3_fits, Cond.instanceMethod yX3_fits, Cond.selects RX3 yX3_fits yX3_fits, Cond.code yX3_fits cX3_fits 9 (some .boolean), Cond.fieldLink RX3 25 "ChoirPlannerModel" "chords" "[I", Cond.methodLink RX3 71 yX3_firstOf, Cond.instanceMethod yX3_firstOf, Cond.selects RX3 yX3_firstOf yX3_firstOf, Cond.code yX3_firstOf cX3_firstOf 6 (some .int), Cond.fieldLink RX3 42 "ChoirPlannerModel" "singers" "I", Cond.fieldLink RX3 7 "ChoirPlannerModel" "voiceOf" "[I", Cond.fieldLink RX3 13 "ChoirPlannerModel" "lows" "[I", Cond.methodLink RX3 67 yX3_isThere, Cond.instanceMethod yX3_isThere, Cond.selects RX3 yX3_isThere yX3_isThere, Cond.code yX3_isThere cX3_isThere 3 (some .boolean), Cond.fieldLink RX3 19 "ChoirPlannerModel" "away" "[I", Cond.methodLink RX3 75 yX3_lastOf, Cond.instanceMethod yX3_lastOf, Cond.selects RX3 yX3_lastOf yX3_lastOf, Cond.code yX3_lastOf cX3_lastOf 6 (some .int), Cond.fieldLink RX3 16 "ChoirPlannerModel" "highs" "[I", Cond.methodLink RX3 78 yX3_toneAt]
def wsX3_programme_r3 : List Cond := [Cond.instanceMethod yX3_toneAt, Cond.selects RX3 yX3_toneAt yX3_toneAt, Cond.code yX3_toneAt cX3_toneAt 4 (some .int), Cond.fieldLink RX3 22 "ChoirPlannerModel" "tones" "[I", Cond.methodLink RX3 108 yX3_lengthOf, Cond.instanceMethod yX3_lengthOf, Cond.selects RX3 yX3_lengthOf yX3_lengthOf, Cond.code yX3_lengthOf cX3_lengthOf 4 (some .int), Cond.fieldLink RX3 28 "ChoirPlannerModel" "lengths" "[I", Cond.methodLink RX3 114 yX3_isBetter, Cond.instanceMethod yX3_isBetter, Cond.selects RX3 yX3_isBetter yX3_isBetter, Cond.code yX3_isBetter cX3_isBetter 7 (some .boolean), Cond.methodLink RX3 111 yX3_bits, Cond.static yX3_bits, Cond.code yX3_bits cX3_bits 3 (some .int)]
def wsX3_programme : List Cond := .code yX3_programme cX3_programme 3 (some .int) :: ((wsX3_programme_r1 ++ (wsX3_programme_r2 ++ wsX3_programme_r3)) ++ wsX30)
def wsX3_duration_r1 : List Cond := [Cond.methodLink RX3 117 yX3_noDate, Cond.instanceMethod yX3_noDate, Cond.selects RX3 yX3_noDate yX3_noDate, Cond.initialized RX3, Cond.code yX3_noDate cX3_noDate 3 (some .boolean), Cond.methodLink RX3 64 yX3_isDate, Cond.static yX3_isDate, Cond.code yX3_isDate cX3_isDate 1 (some .boolean), Cond.methodLink RX3 38 yX3_in, Cond.static yX3_in, Cond.code yX3_in cX3_in 3 (some .boolean), Cond.methodLink RX3 58 yX3_refused, Cond.instanceMethod yX3_refused, Cond.selects RX3 yX3_refused yX3_refused, Cond.code yX3_refused cX3_refused 2 (some .boolean), Cond.fieldLink RX3 34 "ChoirPlannerModel" "refusal" "I", Cond.methodLink RX3 120 yX3_planned, Cond.instanceMethod yX3_planned, Cond.selects RX3 yX3_planned yX3_planned, Cond.code yX3_planned cX3_planned 7 (some .int), Cond.fieldLink RX3 45 "ChoirPlannerModel" "pieces" "I", Cond.methodLink RX3 105 yX3_shiftOf, Cond.instanceMethod yX3_shiftOf, Cond.selects RX3 yX3_shiftOf yX3_shiftOf]
def wsX3_duration_r2 : List Cond := [Cond.code yX3_shiftOf cX3_shiftOf 4 (some .int), Cond.methodLink RX3 102 yX3_fits, Cond.instanceMethod yX3_fits, Cond.selects RX3 yX3_fits yX3_fits, Cond.code yX3_fits cX3_fits 9 (some .boolean), Cond.fieldLink RX3 25 "ChoirPlannerModel" "chords" "[I", Cond.methodLink RX3 71 yX3_firstOf, Cond.instanceMethod yX3_firstOf, Cond.selects RX3 yX3_firstOf yX3_firstOf, Cond.code yX3_firstOf cX3_firstOf 6 (some .int), Cond.fieldLink RX3 42 "ChoirPlannerModel" "singers" "I", Cond.fieldLink RX3 7 "ChoirPlannerModel" "voiceOf" "[I", Cond.fieldLink RX3 13 "ChoirPlannerModel" "lows" "[I", Cond.methodLink RX3 67 yX3_isThere, Cond.instanceMethod yX3_isThere, Cond.selects RX3 yX3_isThere yX3_isThere, Cond.code yX3_isThere cX3_isThere 3 (some .boolean), Cond.fieldLink RX3 19 "ChoirPlannerModel" "away" "[I", Cond.methodLink RX3 75 yX3_lastOf, Cond.instanceMethod yX3_lastOf, Cond.selects RX3 yX3_lastOf yX3_lastOf, Cond.code yX3_lastOf cX3_lastOf 6 (some .int), Cond.fieldLink RX3 16 "ChoirPlannerModel" "highs" "[I", Cond.methodLink RX3 78 yX3_toneAt]
def wsX3_duration_r3 : List Cond := [Cond.instanceMethod yX3_toneAt, Cond.selects RX3 yX3_toneAt yX3_toneAt, Cond.code yX3_toneAt cX3_toneAt 4 (some .int), Cond.fieldLink RX3 22 "ChoirPlannerModel" "tones" "[I", Cond.methodLink RX3 108 yX3_lengthOf, Cond.instanceMethod yX3_lengthOf, Cond.selects RX3 yX3_lengthOf yX3_lengthOf, Cond.code yX3_lengthOf cX3_lengthOf 4 (some .int), Cond.fieldLink RX3 28 "ChoirPlannerModel" "lengths" "[I", Cond.methodLink RX3 114 yX3_isBetter, Cond.instanceMethod yX3_isBetter, Cond.selects RX3 yX3_isBetter yX3_isBetter, Cond.code yX3_isBetter cX3_isBetter 7 (some .boolean), Cond.methodLink RX3 111 yX3_bits, Cond.static yX3_bits, Cond.code yX3_bits cX3_bits 3 (some .int)]
def wsX3_duration : List Cond := .code yX3_duration cX3_duration 3 (some .int) :: ((wsX3_duration_r1 ++ (wsX3_duration_r2 ++ wsX3_duration_r3)) ++ wsX30)
def wsX3_weaknessOf : List Cond := .code yX3_weaknessOf cX3_weaknessOf 4 (some .int) :: ([.fieldLink RX3 31 "ChoirPlannerModel" "practice" "[I", .methodLink RX3 95 yX3_faultsOf, .instanceMethod yX3_faultsOf, .selects RX3 yX3_faultsOf yX3_faultsOf, .initialized RX3, .code yX3_faultsOf cX3_faultsOf 7 (some .int), .methodLink RX3 78 yX3_toneAt, .instanceMethod yX3_toneAt, .selects RX3 yX3_toneAt yX3_toneAt, .code yX3_toneAt cX3_toneAt 4 (some .int), .fieldLink RX3 22 "ChoirPlannerModel" "tones" "[I", .methodLink RX3 38 yX3_in, .static yX3_in, .code yX3_in cX3_in 3 (some .boolean), .methodLink RX3 91 yX3_isParallel, .instanceMethod yX3_isParallel, .selects RX3 yX3_isParallel yX3_isParallel, .code yX3_isParallel cX3_isParallel 8 (some .boolean)] ++ wsX30)
def wsX3_weakestOf : List Cond := .code yX3_weakestOf cX3_weakestOf 4 (some .int) :: ([.fieldLink RX3 25 "ChoirPlannerModel" "chords" "[I", .methodLink RX3 123 yX3_weaknessOf, .instanceMethod yX3_weaknessOf, .selects RX3 yX3_weaknessOf yX3_weaknessOf, .initialized RX3, .code yX3_weaknessOf cX3_weaknessOf 4 (some .int), .fieldLink RX3 31 "ChoirPlannerModel" "practice" "[I", .methodLink RX3 95 yX3_faultsOf, .instanceMethod yX3_faultsOf, .selects RX3 yX3_faultsOf yX3_faultsOf, .code yX3_faultsOf cX3_faultsOf 7 (some .int), .methodLink RX3 78 yX3_toneAt, .instanceMethod yX3_toneAt, .selects RX3 yX3_toneAt yX3_toneAt, .code yX3_toneAt cX3_toneAt 4 (some .int), .fieldLink RX3 22 "ChoirPlannerModel" "tones" "[I", .methodLink RX3 38 yX3_in, .static yX3_in, .code yX3_in cX3_in 3 (some .boolean), .methodLink RX3 91 yX3_isParallel, .instanceMethod yX3_isParallel, .selects RX3 yX3_isParallel yX3_isParallel, .code yX3_isParallel cX3_isParallel 8 (some .boolean)] ++ wsX30)
def wsX3_rehearse_r1 : List Cond := [Cond.fieldLink RX3 31 "ChoirPlannerModel" "practice" "[I", Cond.fieldLink RX3 25 "ChoirPlannerModel" "chords" "[I", Cond.methodLink RX3 48 yX3_isPiece, Cond.instanceMethod yX3_isPiece, Cond.selects RX3 yX3_isPiece yX3_isPiece, Cond.initialized RX3, Cond.code yX3_isPiece cX3_isPiece 2 (some .boolean), Cond.fieldLink RX3 45 "ChoirPlannerModel" "pieces" "I", Cond.methodLink RX3 38 yX3_in, Cond.static yX3_in, Cond.code yX3_in cX3_in 3 (some .boolean), Cond.methodLink RX3 58 yX3_refused, Cond.instanceMethod yX3_refused, Cond.selects RX3 yX3_refused yX3_refused, Cond.code yX3_refused cX3_refused 2 (some .boolean), Cond.fieldLink RX3 34 "ChoirPlannerModel" "refusal" "I", Cond.methodLink RX3 126 yX3_weakestOf, Cond.instanceMethod yX3_weakestOf, Cond.selects RX3 yX3_weakestOf yX3_weakestOf, Cond.code yX3_weakestOf cX3_weakestOf 4 (some .int), Cond.methodLink RX3 123 yX3_weaknessOf, Cond.instanceMethod yX3_weaknessOf, Cond.selects RX3 yX3_weaknessOf yX3_weaknessOf, Cond.code yX3_weaknessOf cX3_weaknessOf 4 (some .int)]
def wsX3_rehearse_r2 : List Cond := [Cond.methodLink RX3 95 yX3_faultsOf, Cond.instanceMethod yX3_faultsOf, Cond.selects RX3 yX3_faultsOf yX3_faultsOf, Cond.code yX3_faultsOf cX3_faultsOf 7 (some .int), Cond.methodLink RX3 78 yX3_toneAt, Cond.instanceMethod yX3_toneAt, Cond.selects RX3 yX3_toneAt yX3_toneAt, Cond.code yX3_toneAt cX3_toneAt 4 (some .int), Cond.fieldLink RX3 22 "ChoirPlannerModel" "tones" "[I", Cond.methodLink RX3 91 yX3_isParallel, Cond.instanceMethod yX3_isParallel, Cond.selects RX3 yX3_isParallel yX3_isParallel, Cond.code yX3_isParallel cX3_isParallel 8 (some .boolean)]
def wsX3_rehearse : List Cond := .code yX3_rehearse cX3_rehearse 5 (some .int) :: ((wsX3_rehearse_r1 ++ wsX3_rehearse_r2) ++ wsX30)
def wsX3_weakness_r1 : List Cond := [Cond.methodLink RX3 82 yX3_isChord, Cond.instanceMethod yX3_isChord, Cond.selects RX3 yX3_isChord yX3_isChord, Cond.initialized RX3, Cond.code yX3_isChord cX3_isChord 3 (some .boolean), Cond.fieldLink RX3 25 "ChoirPlannerModel" "chords" "[I", Cond.methodLink RX3 48 yX3_isPiece, Cond.instanceMethod yX3_isPiece, Cond.selects RX3 yX3_isPiece yX3_isPiece, Cond.code yX3_isPiece cX3_isPiece 2 (some .boolean), Cond.fieldLink RX3 45 "ChoirPlannerModel" "pieces" "I", Cond.methodLink RX3 38 yX3_in, Cond.static yX3_in, Cond.code yX3_in cX3_in 3 (some .boolean), Cond.methodLink RX3 58 yX3_refused, Cond.instanceMethod yX3_refused, Cond.selects RX3 yX3_refused yX3_refused, Cond.code yX3_refused cX3_refused 2 (some .boolean), Cond.fieldLink RX3 34 "ChoirPlannerModel" "refusal" "I", Cond.methodLink RX3 123 yX3_weaknessOf, Cond.instanceMethod yX3_weaknessOf, Cond.selects RX3 yX3_weaknessOf yX3_weaknessOf, Cond.code yX3_weaknessOf cX3_weaknessOf 4 (some .int), Cond.fieldLink RX3 31 "ChoirPlannerModel" "practice" "[I"]
def wsX3_weakness_r2 : List Cond := [Cond.methodLink RX3 95 yX3_faultsOf, Cond.instanceMethod yX3_faultsOf, Cond.selects RX3 yX3_faultsOf yX3_faultsOf, Cond.code yX3_faultsOf cX3_faultsOf 7 (some .int), Cond.methodLink RX3 78 yX3_toneAt, Cond.instanceMethod yX3_toneAt, Cond.selects RX3 yX3_toneAt yX3_toneAt, Cond.code yX3_toneAt cX3_toneAt 4 (some .int), Cond.fieldLink RX3 22 "ChoirPlannerModel" "tones" "[I", Cond.methodLink RX3 91 yX3_isParallel, Cond.instanceMethod yX3_isParallel, Cond.selects RX3 yX3_isParallel yX3_isParallel, Cond.code yX3_isParallel cX3_isParallel 8 (some .boolean)]
def wsX3_weakness : List Cond := .code yX3_weakness cX3_weakness 3 (some .int) :: ((wsX3_weakness_r1 ++ wsX3_weakness_r2) ++ wsX30)
def wsX3_weakest_r1 : List Cond := [Cond.methodLink RX3 48 yX3_isPiece, Cond.instanceMethod yX3_isPiece, Cond.selects RX3 yX3_isPiece yX3_isPiece, Cond.initialized RX3, Cond.code yX3_isPiece cX3_isPiece 2 (some .boolean), Cond.fieldLink RX3 45 "ChoirPlannerModel" "pieces" "I", Cond.methodLink RX3 38 yX3_in, Cond.static yX3_in, Cond.code yX3_in cX3_in 3 (some .boolean), Cond.methodLink RX3 58 yX3_refused, Cond.instanceMethod yX3_refused, Cond.selects RX3 yX3_refused yX3_refused, Cond.code yX3_refused cX3_refused 2 (some .boolean), Cond.fieldLink RX3 34 "ChoirPlannerModel" "refusal" "I", Cond.methodLink RX3 126 yX3_weakestOf, Cond.instanceMethod yX3_weakestOf, Cond.selects RX3 yX3_weakestOf yX3_weakestOf, Cond.code yX3_weakestOf cX3_weakestOf 4 (some .int), Cond.fieldLink RX3 25 "ChoirPlannerModel" "chords" "[I", Cond.methodLink RX3 123 yX3_weaknessOf, Cond.instanceMethod yX3_weaknessOf, Cond.selects RX3 yX3_weaknessOf yX3_weaknessOf, Cond.code yX3_weaknessOf cX3_weaknessOf 4 (some .int), Cond.fieldLink RX3 31 "ChoirPlannerModel" "practice" "[I"]
def wsX3_weakest_r2 : List Cond := [Cond.methodLink RX3 95 yX3_faultsOf, Cond.instanceMethod yX3_faultsOf, Cond.selects RX3 yX3_faultsOf yX3_faultsOf, Cond.code yX3_faultsOf cX3_faultsOf 7 (some .int), Cond.methodLink RX3 78 yX3_toneAt, Cond.instanceMethod yX3_toneAt, Cond.selects RX3 yX3_toneAt yX3_toneAt, Cond.code yX3_toneAt cX3_toneAt 4 (some .int), Cond.fieldLink RX3 22 "ChoirPlannerModel" "tones" "[I", Cond.methodLink RX3 91 yX3_isParallel, Cond.instanceMethod yX3_isParallel, Cond.selects RX3 yX3_isParallel yX3_isParallel, Cond.code yX3_isParallel cX3_isParallel 8 (some .boolean)]
def wsX3_weakest : List Cond := .code yX3_weakest cX3_weakest 2 (some .int) :: ((wsX3_weakest_r1 ++ wsX3_weakest_r2) ++ wsX30)
def wsJ9_abs_0f7a4 : List Cond := .code yJ9_abs_0f7a4 cJ9_abs_0f7a4 1 (some .int) :: ([])
def wsJ9_max_7cf53 : List Cond := .code yJ9_max_7cf53 cJ9_max_7cf53 2 (some .int) :: ([])
def wsJ9_min_7cf53 : List Cond := .code yJ9_min_7cf53 cJ9_min_7cf53 2 (some .int) :: ([])
def wsL_addSinger_r1 : List Cond := [Cond.classLink RL 13 "java/lang/IllegalArgumentException", Cond.classLink RL 15 "java/lang/IllegalStateException", Cond.methodLink RL 7 yX2_addSinger, Cond.instanceMethod yX2_addSinger, Cond.selects RX2 yX2_addSinger yX2_addSinger, Cond.initialized RX2, Cond.code yX2_addSinger cX2_addSinger 4 (some .int), Cond.classLink RX2 35 "java/lang/IllegalArgumentException", Cond.initialized "java/lang/IllegalArgumentException", Cond.classLink RX2 46 "java/lang/IllegalStateException", Cond.initialized "java/lang/IllegalStateException", Cond.fieldLink RX2 12 "ChoirPlanner" "roster" "LChoirPlanner$Roster;", Cond.methodLink RX2 27 yX2_checkVoice, Cond.static yX2_checkVoice, Cond.code yX2_checkVoice cX2_checkVoice 1 none, Cond.methodLink RX2 31 yX2_checkTone, Cond.static yX2_checkTone, Cond.code yX2_checkTone cX2_checkTone 2 none, Cond.methodLink RX2 42 yX1_isFull, Cond.instanceMethod yX1_isFull, Cond.selects RX1 yX1_isFull yX1_isFull, Cond.initialized RX1, Cond.code yX1_isFull cX1_isFull 1 (some .boolean), Cond.fieldLink RX1 24 "ChoirPlanner$Roster" "size" "I"]
def wsL_addSinger_r2 : List Cond := [Cond.methodLink RX2 51 yX1_add, Cond.instanceMethod yX1_add, Cond.selects RX1 yX1_add yX1_add, Cond.code yX1_add cX1_add 5 (some .int), Cond.fieldLink RX1 9 "ChoirPlanner$Roster" "voices" "[I", Cond.fieldLink RX1 15 "ChoirPlanner$Roster" "lowest" "[I", Cond.fieldLink RX1 18 "ChoirPlanner$Roster" "highest" "[I"]
def wsL_addSinger : List Cond := .codeWith yL_addSinger cL_addSinger 6 (some .int) [(0, 12, 15, 13), (0, 12, 19, 15)] :: ((wsL_addSinger_r1 ++ wsL_addSinger_r2) ++ wsX20 ++ wsX10 ++ (vx_atS RX2 39 "java/lang/IllegalArgumentException" ["java/lang/RuntimeException", "java/lang/Exception"]).filter goodWord ++ (vx_atS RX2 50 "java/lang/IllegalStateException" ["java/lang/RuntimeException", "java/lang/Exception"]).filter goodWord)
def wsL_tell_r1 : List Cond := [Cond.classLink RL 21 "java/lang/IndexOutOfBoundsException", Cond.classLink RL 13 "java/lang/IllegalArgumentException", Cond.methodLink RL 17 yX2_tell, Cond.instanceMethod yX2_tell, Cond.selects RX2 yX2_tell yX2_tell, Cond.initialized RX2, Cond.code yX2_tell cX2_tell 5 (some .boolean), Cond.fieldLink RX2 12 "ChoirPlanner" "roster" "LChoirPlanner$Roster;", Cond.methodLink RX2 55 yX2_checkSinger, Cond.instanceMethod yX2_checkSinger, Cond.selects RX2 yX2_checkSinger yX2_checkSinger, Cond.code yX2_checkSinger cX2_checkSinger 2 none, Cond.classLink RX2 137 "java/lang/IndexOutOfBoundsException", Cond.initialized "java/lang/IndexOutOfBoundsException", Cond.methodLink RX2 185 yX1_has, Cond.instanceMethod yX1_has, Cond.selects RX1 yX1_has yX1_has, Cond.initialized RX1, Cond.code yX1_has cX1_has 2 (some .boolean), Cond.fieldLink RX1 24 "ChoirPlanner$Roster" "size" "I", Cond.methodLink RX2 58 yX2_checkDate, Cond.static yX2_checkDate, Cond.code yX2_checkDate cX2_checkDate 1 none, Cond.classLink RX2 35 "java/lang/IllegalArgumentException"]
def wsL_tell_r2 : List Cond := [Cond.initialized "java/lang/IllegalArgumentException", Cond.methodLink RX2 61 yX1_isThere, Cond.instanceMethod yX1_isThere, Cond.selects RX1 yX1_isThere yX1_isThere, Cond.code yX1_isThere cX1_isThere 3 (some .boolean), Cond.fieldLink RX1 21 "ChoirPlanner$Roster" "away" "[I", Cond.methodLink RX2 65 yX1_putThere, Cond.instanceMethod yX1_putThere, Cond.selects RX1 yX1_putThere yX1_putThere, Cond.code yX1_putThere cX1_putThere 5 none]
def wsL_tell : List Cond := .codeWith yL_tell cL_tell 6 (some .int) [(0, 19, 22, 21), (0, 19, 26, 13)] :: ((wsL_tell_r1 ++ wsL_tell_r2) ++ wsX20 ++ wsX10 ++ (vx_atS RX2 141 "java/lang/IndexOutOfBoundsException" ["java/lang/RuntimeException", "java/lang/Exception"]).filter goodWord ++ (vx_atS RX2 39 "java/lang/IllegalArgumentException" ["java/lang/RuntimeException", "java/lang/Exception"]).filter goodWord)
def wsL_change_r1 : List Cond := [Cond.classLink RL 21 "java/lang/IndexOutOfBoundsException", Cond.classLink RL 13 "java/lang/IllegalArgumentException", Cond.methodLink RL 23 yX2_change, Cond.instanceMethod yX2_change, Cond.selects RX2 yX2_change yX2_change, Cond.initialized RX2, Cond.code yX2_change cX2_change 3 (some .int), Cond.fieldLink RX2 12 "ChoirPlanner" "roster" "LChoirPlanner$Roster;", Cond.methodLink RX2 55 yX2_checkSinger, Cond.instanceMethod yX2_checkSinger, Cond.selects RX2 yX2_checkSinger yX2_checkSinger, Cond.code yX2_checkSinger cX2_checkSinger 2 none, Cond.classLink RX2 137 "java/lang/IndexOutOfBoundsException", Cond.initialized "java/lang/IndexOutOfBoundsException", Cond.methodLink RX2 185 yX1_has, Cond.instanceMethod yX1_has, Cond.selects RX1 yX1_has yX1_has, Cond.initialized RX1, Cond.code yX1_has cX1_has 2 (some .boolean), Cond.fieldLink RX1 24 "ChoirPlanner$Roster" "size" "I", Cond.methodLink RX2 27 yX2_checkVoice, Cond.static yX2_checkVoice, Cond.code yX2_checkVoice cX2_checkVoice 1 none, Cond.classLink RX2 35 "java/lang/IllegalArgumentException"]
def wsL_change_r2 : List Cond := [Cond.initialized "java/lang/IllegalArgumentException", Cond.methodLink RX2 69 yX1_replaceVoice, Cond.instanceMethod yX1_replaceVoice, Cond.selects RX1 yX1_replaceVoice yX1_replaceVoice, Cond.code yX1_replaceVoice cX1_replaceVoice 4 (some .int), Cond.fieldLink RX1 9 "ChoirPlanner$Roster" "voices" "[I"]
def wsL_change : List Cond := .codeWith yL_change cL_change 5 (some .int) [(0, 10, 13, 21), (0, 10, 17, 13)] :: ((wsL_change_r1 ++ wsL_change_r2) ++ wsX20 ++ wsX10 ++ (vx_atS RX2 141 "java/lang/IndexOutOfBoundsException" ["java/lang/RuntimeException", "java/lang/Exception"]).filter goodWord ++ (vx_atS RX2 39 "java/lang/IllegalArgumentException" ["java/lang/RuntimeException", "java/lang/Exception"]).filter goodWord)
def wsL_range_r1 : List Cond := [Cond.classLink RL 13 "java/lang/IllegalArgumentException", Cond.methodLink RL 27 yX2_range, Cond.instanceMethod yX2_range, Cond.selects RX2 yX2_range yX2_range, Cond.initialized RX2, Cond.code yX2_range cX2_range 5 (some .int), Cond.fieldLink RX2 12 "ChoirPlanner" "roster" "LChoirPlanner$Roster;", Cond.methodLink RX2 27 yX2_checkVoice, Cond.static yX2_checkVoice, Cond.code yX2_checkVoice cX2_checkVoice 1 none, Cond.classLink RX2 35 "java/lang/IllegalArgumentException", Cond.initialized "java/lang/IllegalArgumentException", Cond.methodLink RX2 58 yX2_checkDate, Cond.static yX2_checkDate, Cond.code yX2_checkDate cX2_checkDate 1 none, Cond.methodLink RX2 73 yX1_firstTone, Cond.instanceMethod yX1_firstTone, Cond.selects RX1 yX1_firstTone yX1_firstTone, Cond.initialized RX1, Cond.code yX1_firstTone cX1_firstTone 5 (some .int), Cond.fieldLink RX1 24 "ChoirPlanner$Roster" "size" "I", Cond.fieldLink RX1 15 "ChoirPlanner$Roster" "lowest" "[I", Cond.methodLink RX1 32 Lib.Math.max.name, Cond.static Lib.Math.max.name]
def wsL_range_r2 : List Cond := [Cond.initialized "java/lang/Math", Cond.code Lib.Math.max.name Lib.Math.max.code 2 (some .int), Cond.methodLink RX1 28 yX1_sings, Cond.instanceMethod yX1_sings, Cond.selects RX1 yX1_sings yX1_sings, Cond.code yX1_sings cX1_sings 4 (some .boolean), Cond.fieldLink RX1 9 "ChoirPlanner$Roster" "voices" "[I", Cond.methodLink RX1 41 yX1_isThere, Cond.instanceMethod yX1_isThere, Cond.selects RX1 yX1_isThere yX1_isThere, Cond.code yX1_isThere cX1_isThere 3 (some .boolean), Cond.fieldLink RX1 21 "ChoirPlanner$Roster" "away" "[I", Cond.methodLink RX2 76 yX1_lastTone, Cond.instanceMethod yX1_lastTone, Cond.selects RX1 yX1_lastTone yX1_lastTone, Cond.code yX1_lastTone cX1_lastTone 5 (some .int), Cond.fieldLink RX1 18 "ChoirPlanner$Roster" "highest" "[I", Cond.methodLink RX1 38 Lib.Math.min.name, Cond.static Lib.Math.min.name, Cond.code Lib.Math.min.name Lib.Math.min.code 2 (some .int)]
def wsL_range : List Cond := .codeWith yL_range cL_range 5 (some .int) [(0, 10, 13, 13)] :: ((wsL_range_r1 ++ wsL_range_r2) ++ wsX20 ++ wsX10 ++ (vx_atS RX2 39 "java/lang/IllegalArgumentException" ["java/lang/RuntimeException", "java/lang/Exception"]).filter goodWord)
def wsL_chord_r1 : List Cond := [Cond.classLink RL 13 "java/lang/IllegalArgumentException", Cond.classLink RL 15 "java/lang/IllegalStateException", Cond.methodLink RL 30 yX2_chord, Cond.instanceMethod yX2_chord, Cond.selects RX2 yX2_chord yX2_chord, Cond.initialized RX2, Cond.code yX2_chord cX2_chord 5 (some .int), Cond.classLink RX2 46 "java/lang/IllegalStateException", Cond.initialized "java/lang/IllegalStateException", Cond.fieldLink RX2 23 "ChoirPlanner" "draft" "LChoirPlanner$Piece;", Cond.methodLink RX2 31 yX2_checkTone, Cond.static yX2_checkTone, Cond.code yX2_checkTone cX2_checkTone 2 none, Cond.classLink RX2 35 "java/lang/IllegalArgumentException", Cond.initialized "java/lang/IllegalArgumentException", Cond.methodLink RX2 79 yX0_isFull, Cond.instanceMethod yX0_isFull, Cond.selects RX0 yX0_isFull yX0_isFull, Cond.initialized RX0, Cond.code yX0_isFull cX0_isFull 1 (some .boolean), Cond.fieldLink RX0 21 "ChoirPlanner$Piece" "size" "I", Cond.methodLink RX2 82 yX0_append, Cond.instanceMethod yX0_append, Cond.selects RX0 yX0_append yX0_append]
def wsL_chord_r2 : List Cond := [Cond.code yX0_append cX0_append 6 (some .int), Cond.fieldLink RX0 9 "ChoirPlanner$Piece" "tones" "[I", Cond.methodLink RX0 28 yX0_countMoveFaults, Cond.instanceMethod yX0_countMoveFaults, Cond.selects RX0 yX0_countMoveFaults yX0_countMoveFaults, Cond.code yX0_countMoveFaults cX0_countMoveFaults 5 none, Cond.methodLink RX0 68 Lib.Math.abs.name, Cond.static Lib.Math.abs.name, Cond.initialized "java/lang/Math", Cond.code Lib.Math.abs.name Lib.Math.abs.code 1 (some .int), Cond.fieldLink RX0 18 "ChoirPlanner$Piece" "moveFaults" "[I", Cond.methodLink RX0 65 yX0_stepInto, Cond.instanceMethod yX0_stepInto, Cond.selects RX0 yX0_stepInto yX0_stepInto, Cond.code yX0_stepInto cX0_stepInto 3 (some .int), Cond.methodLink RX0 32 yX0_toneAt, Cond.instanceMethod yX0_toneAt, Cond.selects RX0 yX0_toneAt yX0_toneAt, Cond.code yX0_toneAt cX0_toneAt 3 (some .int), Cond.methodLink RX0 71 yX0_isParallel, Cond.instanceMethod yX0_isParallel, Cond.selects RX0 yX0_isParallel yX0_isParallel, Cond.code yX0_isParallel cX0_isParallel 5 (some .boolean), Cond.methodLink RX0 75 yX0_isTold]
def wsL_chord_r3 : List Cond := [Cond.static yX0_isTold, Cond.code yX0_isTold cX0_isTold 2 (some .boolean)]
def wsL_chord : List Cond := .codeWith yL_chord cL_chord 7 (some .int) [(0, 14, 17, 13), (0, 14, 21, 15)] :: ((wsL_chord_r1 ++ (wsL_chord_r2 ++ wsL_chord_r3)) ++ wsX20 ++ wsX00 ++ (vx_atS RX2 50 "java/lang/IllegalStateException" ["java/lang/RuntimeException", "java/lang/Exception"]).filter goodWord ++ (vx_atS RX2 39 "java/lang/IllegalArgumentException" ["java/lang/RuntimeException", "java/lang/Exception"]).filter goodWord)
def wsL_addPiece_r1 : List Cond := [Cond.classLink RL 13 "java/lang/IllegalArgumentException", Cond.classLink RL 15 "java/lang/IllegalStateException", Cond.methodLink RL 34 yX2_addPiece, Cond.instanceMethod yX2_addPiece, Cond.selects RX2 yX2_addPiece yX2_addPiece, Cond.initialized RX2, Cond.code yX2_addPiece cX2_addPiece 3 (some .int), Cond.classLink RX2 35 "java/lang/IllegalArgumentException", Cond.initialized "java/lang/IllegalArgumentException", Cond.classLink RX2 46 "java/lang/IllegalStateException", Cond.initialized "java/lang/IllegalStateException", Cond.fieldLink RX2 23 "ChoirPlanner" "draft" "LChoirPlanner$Piece;", Cond.fieldLink RX2 93 "ChoirPlanner" "pieceCount" "I", Cond.fieldLink RX2 18 "ChoirPlanner" "pieces" "[LChoirPlanner$Piece;", Cond.classLink RX2 16 RX0, Cond.instantiable RX0 5, Cond.initialized RX0, Cond.methodLink RX2 88 yX0_isEmpty, Cond.instanceMethod yX0_isEmpty, Cond.selects RX0 yX0_isEmpty yX0_isEmpty, Cond.code yX0_isEmpty cX0_isEmpty 1 (some .boolean), Cond.fieldLink RX0 21 "ChoirPlanner$Piece" "size" "I", Cond.methodLink RX2 99 yX0_putLength, Cond.instanceMethod yX0_putLength]
def wsL_addPiece_r2 : List Cond := [Cond.selects RX0 yX0_putLength yX0_putLength, Cond.code yX0_putLength cX0_putLength 2 none, Cond.fieldLink RX0 25 "ChoirPlanner$Piece" "seconds" "I", Cond.instanceMethod yX0_init, Cond.code yX0_init cX0_init 1 none, Cond.methodLink RX0 3 objectInit, Cond.instanceMethod objectInit, Cond.code objectInit ⟨#[0xb1]⟩ 1 none, Cond.arrayClass .int, Cond.fieldLink RX0 9 "ChoirPlanner$Piece" "tones" "[I", Cond.fieldLink RX0 15 "ChoirPlanner$Piece" "practice" "[I", Cond.fieldLink RX0 18 "ChoirPlanner$Piece" "moveFaults" "[I"]
def wsL_addPiece : List Cond := .codeWith yL_addPiece cL_addPiece 4 (some .int) [(0, 9, 12, 13), (0, 9, 15, 15)] :: ((wsL_addPiece_r1 ++ wsL_addPiece_r2) ++ wsX20 ++ wsX00 ++ (vx_atS RX2 39 "java/lang/IllegalArgumentException" ["java/lang/RuntimeException", "java/lang/Exception"]).filter goodWord ++ (vx_atS RX2 50 "java/lang/IllegalStateException" ["java/lang/RuntimeException", "java/lang/Exception"]).filter goodWord)
def wsL_setTone_r1 : List Cond := [Cond.classLink RL 21 "java/lang/IndexOutOfBoundsException", Cond.classLink RL 13 "java/lang/IllegalArgumentException", Cond.classLink RL 15 "java/lang/IllegalStateException", Cond.methodLink RL 38 yX2_setTone, Cond.instanceMethod yX2_setTone, Cond.selects RX2 yX2_setTone yX2_setTone, Cond.initialized RX2, Cond.code yX2_setTone cX2_setTone 7 (some .int), Cond.classLink RX2 46 "java/lang/IllegalStateException", Cond.initialized "java/lang/IllegalStateException", Cond.methodLink RX2 102 yX2_pieceAt, Cond.instanceMethod yX2_pieceAt, Cond.selects RX2 yX2_pieceAt yX2_pieceAt, Cond.code yX2_pieceAt cX2_pieceAt 3 (some (.object "ChoirPlanner$Piece")), Cond.classLink RX2 137 "java/lang/IndexOutOfBoundsException", Cond.initialized "java/lang/IndexOutOfBoundsException", Cond.fieldLink RX2 93 "ChoirPlanner" "pieceCount" "I", Cond.fieldLink RX2 18 "ChoirPlanner" "pieces" "[LChoirPlanner$Piece;", Cond.methodLink RX2 106 yX2_checkChord, Cond.static yX2_checkChord, Cond.code yX2_checkChord cX2_checkChord 2 none, Cond.methodLink RX2 190 yX0_has, Cond.instanceMethod yX0_has, Cond.selects RX0 yX0_has yX0_has]
def wsL_setTone_r2 : List Cond := [Cond.initialized RX0, Cond.code yX0_has cX0_has 2 (some .boolean), Cond.fieldLink RX0 21 "ChoirPlanner$Piece" "size" "I", Cond.methodLink RX2 27 yX2_checkVoice, Cond.static yX2_checkVoice, Cond.code yX2_checkVoice cX2_checkVoice 1 none, Cond.classLink RX2 35 "java/lang/IllegalArgumentException", Cond.initialized "java/lang/IllegalArgumentException", Cond.methodLink RX2 31 yX2_checkTone, Cond.static yX2_checkTone, Cond.code yX2_checkTone cX2_checkTone 2 none, Cond.methodLink RX2 110 yX0_ceiling, Cond.instanceMethod yX0_ceiling, Cond.selects RX0 yX0_ceiling yX0_ceiling, Cond.code yX0_ceiling cX0_ceiling 3 (some .int), Cond.methodLink RX0 32 yX0_toneAt, Cond.instanceMethod yX0_toneAt, Cond.selects RX0 yX0_toneAt yX0_toneAt, Cond.code yX0_toneAt cX0_toneAt 3 (some .int), Cond.fieldLink RX0 9 "ChoirPlanner$Piece" "tones" "[I", Cond.methodLink RX2 113 yX0_floor, Cond.instanceMethod yX0_floor, Cond.selects RX0 yX0_floor yX0_floor, Cond.code yX0_floor cX0_floor 3 (some .int)]
def wsL_setTone_r3 : List Cond := [Cond.methodLink RX2 118 yX0_toneAt, Cond.methodLink RX2 121 yX0_putTone, Cond.instanceMethod yX0_putTone, Cond.selects RX0 yX0_putTone yX0_putTone, Cond.code yX0_putTone cX0_putTone 4 none, Cond.methodLink RX0 28 yX0_countMoveFaults, Cond.instanceMethod yX0_countMoveFaults, Cond.selects RX0 yX0_countMoveFaults yX0_countMoveFaults, Cond.code yX0_countMoveFaults cX0_countMoveFaults 5 none, Cond.methodLink RX0 68 Lib.Math.abs.name, Cond.static Lib.Math.abs.name, Cond.initialized "java/lang/Math", Cond.code Lib.Math.abs.name Lib.Math.abs.code 1 (some .int), Cond.fieldLink RX0 18 "ChoirPlanner$Piece" "moveFaults" "[I", Cond.methodLink RX0 65 yX0_stepInto, Cond.instanceMethod yX0_stepInto, Cond.selects RX0 yX0_stepInto yX0_stepInto, Cond.code yX0_stepInto cX0_stepInto 3 (some .int), Cond.methodLink RX0 71 yX0_isParallel, Cond.instanceMethod yX0_isParallel, Cond.selects RX0 yX0_isParallel yX0_isParallel, Cond.code yX0_isParallel cX0_isParallel 5 (some .boolean), Cond.methodLink RX0 75 yX0_isTold, Cond.static yX0_isTold]
def wsL_setTone_r4 : List Cond := [Cond.code yX0_isTold cX0_isTold 2 (some .boolean)]
def wsL_setTone : List Cond := .codeWith yL_setTone cL_setTone 7 (some .int) [(0, 14, 17, 21), (0, 14, 21, 13), (0, 14, 25, 15)] :: ((wsL_setTone_r1 ++ (wsL_setTone_r2 ++ (wsL_setTone_r3 ++ wsL_setTone_r4))) ++ wsX20 ++ wsX00 ++ (vx_atS RX2 50 "java/lang/IllegalStateException" ["java/lang/RuntimeException", "java/lang/Exception"]).filter goodWord ++ (vx_atS RX2 141 "java/lang/IndexOutOfBoundsException" ["java/lang/RuntimeException", "java/lang/Exception"]).filter goodWord ++ (vx_atS RX2 39 "java/lang/IllegalArgumentException" ["java/lang/RuntimeException", "java/lang/Exception"]).filter goodWord)
def wsL_faultsAt_r1 : List Cond := [Cond.classLink RL 21 "java/lang/IndexOutOfBoundsException", Cond.methodLink RL 41 yX2_faultsAt, Cond.instanceMethod yX2_faultsAt, Cond.selects RX2 yX2_faultsAt yX2_faultsAt, Cond.initialized RX2, Cond.code yX2_faultsAt cX2_faultsAt 4 (some .int), Cond.methodLink RX2 102 yX2_pieceAt, Cond.instanceMethod yX2_pieceAt, Cond.selects RX2 yX2_pieceAt yX2_pieceAt, Cond.code yX2_pieceAt cX2_pieceAt 3 (some (.object "ChoirPlanner$Piece")), Cond.classLink RX2 137 "java/lang/IndexOutOfBoundsException", Cond.initialized "java/lang/IndexOutOfBoundsException", Cond.fieldLink RX2 93 "ChoirPlanner" "pieceCount" "I", Cond.fieldLink RX2 18 "ChoirPlanner" "pieces" "[LChoirPlanner$Piece;", Cond.methodLink RX2 106 yX2_checkChord, Cond.static yX2_checkChord, Cond.code yX2_checkChord cX2_checkChord 2 none, Cond.methodLink RX2 190 yX0_has, Cond.instanceMethod yX0_has, Cond.selects RX0 yX0_has yX0_has, Cond.initialized RX0, Cond.code yX0_has cX0_has 2 (some .boolean), Cond.fieldLink RX0 21 "ChoirPlanner$Piece" "size" "I", Cond.methodLink RX2 125 yX0_faultsInto]
def wsL_faultsAt_r2 : List Cond := [Cond.instanceMethod yX0_faultsInto, Cond.selects RX0 yX0_faultsInto yX0_faultsInto, Cond.code yX0_faultsInto cX0_faultsInto 2 (some .int), Cond.fieldLink RX0 18 "ChoirPlanner$Piece" "moveFaults" "[I"]
def wsL_faultsAt : List Cond := .codeWith yL_faultsAt cL_faultsAt 5 (some .int) [(0, 10, 13, 21)] :: ((wsL_faultsAt_r1 ++ wsL_faultsAt_r2) ++ wsX20 ++ wsX00 ++ (vx_atS RX2 141 "java/lang/IndexOutOfBoundsException" ["java/lang/RuntimeException", "java/lang/Exception"]).filter goodWord)
def wsL_faults : List Cond := .codeWith yL_faults cL_faults 4 (some .int) [(0, 9, 12, 21)] :: ([.classLink RL 21 "java/lang/IndexOutOfBoundsException", .methodLink RL 44 yX2_faults, .instanceMethod yX2_faults, .selects RX2 yX2_faults yX2_faults, .initialized RX2, .code yX2_faults cX2_faults 2 (some .int), .methodLink RX2 102 yX2_pieceAt, .instanceMethod yX2_pieceAt, .selects RX2 yX2_pieceAt yX2_pieceAt, .code yX2_pieceAt cX2_pieceAt 3 (some (.object "ChoirPlanner$Piece")), .classLink RX2 137 "java/lang/IndexOutOfBoundsException", .initialized "java/lang/IndexOutOfBoundsException", .fieldLink RX2 93 "ChoirPlanner" "pieceCount" "I", .fieldLink RX2 18 "ChoirPlanner" "pieces" "[LChoirPlanner$Piece;", .methodLink RX2 129 yX0_faultSum, .instanceMethod yX0_faultSum, .selects RX0 yX0_faultSum yX0_faultSum, .initialized RX0, .code yX0_faultSum cX0_faultSum 3 (some .int), .fieldLink RX0 21 "ChoirPlanner$Piece" "size" "I", .fieldLink RX0 18 "ChoirPlanner$Piece" "moveFaults" "[I"] ++ wsX20 ++ wsX00 ++ (vx_atS RX2 141 "java/lang/IndexOutOfBoundsException" ["java/lang/RuntimeException", "java/lang/Exception"]).filter goodWord)
def wsL_leastFaults_r1 : List Cond := [Cond.classLink RL 21 "java/lang/IndexOutOfBoundsException", Cond.classLink RL 13 "java/lang/IllegalArgumentException", Cond.methodLink RL 47 yX2_leastFaults, Cond.instanceMethod yX2_leastFaults, Cond.selects RX2 yX2_leastFaults yX2_leastFaults, Cond.initialized RX2, Cond.code yX2_leastFaults cX2_leastFaults 5 (some .int), Cond.classLink RX2 137 "java/lang/IndexOutOfBoundsException", Cond.initialized "java/lang/IndexOutOfBoundsException", Cond.methodLink RX2 102 yX2_pieceAt, Cond.instanceMethod yX2_pieceAt, Cond.selects RX2 yX2_pieceAt yX2_pieceAt, Cond.code yX2_pieceAt cX2_pieceAt 3 (some (.object "ChoirPlanner$Piece")), Cond.fieldLink RX2 93 "ChoirPlanner" "pieceCount" "I", Cond.fieldLink RX2 18 "ChoirPlanner" "pieces" "[LChoirPlanner$Piece;", Cond.methodLink RX2 106 yX2_checkChord, Cond.static yX2_checkChord, Cond.code yX2_checkChord cX2_checkChord 2 none, Cond.methodLink RX2 190 yX0_has, Cond.instanceMethod yX0_has, Cond.selects RX0 yX0_has yX0_has, Cond.initialized RX0, Cond.code yX0_has cX0_has 2 (some .boolean), Cond.fieldLink RX0 21 "ChoirPlanner$Piece" "size" "I"]
def wsL_leastFaults_r2 : List Cond := [Cond.methodLink RX2 133 yX0_isLast, Cond.instanceMethod yX0_isLast, Cond.selects RX0 yX0_isLast yX0_isLast, Cond.code yX0_isLast cX0_isLast 2 (some .boolean), Cond.methodLink RX2 27 yX2_checkVoice, Cond.static yX2_checkVoice, Cond.code yX2_checkVoice cX2_checkVoice 1 none, Cond.classLink RX2 35 "java/lang/IllegalArgumentException", Cond.initialized "java/lang/IllegalArgumentException", Cond.methodLink RX2 142 yX0_leastFaultSum, Cond.instanceMethod yX0_leastFaultSum, Cond.selects RX0 yX0_leastFaultSum yX0_leastFaultSum, Cond.code yX0_leastFaultSum cX0_leastFaultSum 7 (some .int), Cond.methodLink RX0 36 Lib.Math.min.name, Cond.static Lib.Math.min.name, Cond.initialized "java/lang/Math", Cond.code Lib.Math.min.name Lib.Math.min.code 2 (some .int), Cond.methodLink RX0 32 yX0_toneAt, Cond.instanceMethod yX0_toneAt, Cond.selects RX0 yX0_toneAt yX0_toneAt, Cond.code yX0_toneAt cX0_toneAt 3 (some .int), Cond.fieldLink RX0 9 "ChoirPlanner$Piece" "tones" "[I", Cond.methodLink RX0 44 yX0_ceiling, Cond.instanceMethod yX0_ceiling]
def wsL_leastFaults_r3 : List Cond := [Cond.selects RX0 yX0_ceiling yX0_ceiling, Cond.code yX0_ceiling cX0_ceiling 3 (some .int), Cond.methodLink RX0 47 yX0_faultSum, Cond.instanceMethod yX0_faultSum, Cond.selects RX0 yX0_faultSum yX0_faultSum, Cond.code yX0_faultSum cX0_faultSum 3 (some .int), Cond.fieldLink RX0 18 "ChoirPlanner$Piece" "moveFaults" "[I", Cond.methodLink RX0 51 yX0_floor, Cond.instanceMethod yX0_floor, Cond.selects RX0 yX0_floor yX0_floor, Cond.code yX0_floor cX0_floor 3 (some .int), Cond.methodLink RX0 54 yX0_putTone, Cond.instanceMethod yX0_putTone, Cond.selects RX0 yX0_putTone yX0_putTone, Cond.code yX0_putTone cX0_putTone 4 none, Cond.methodLink RX0 28 yX0_countMoveFaults, Cond.instanceMethod yX0_countMoveFaults, Cond.selects RX0 yX0_countMoveFaults yX0_countMoveFaults, Cond.code yX0_countMoveFaults cX0_countMoveFaults 5 none, Cond.methodLink RX0 68 Lib.Math.abs.name, Cond.static Lib.Math.abs.name, Cond.code Lib.Math.abs.name Lib.Math.abs.code 1 (some .int), Cond.methodLink RX0 65 yX0_stepInto, Cond.instanceMethod yX0_stepInto]
def wsL_leastFaults_r4 : List Cond := [Cond.selects RX0 yX0_stepInto yX0_stepInto, Cond.code yX0_stepInto cX0_stepInto 3 (some .int), Cond.methodLink RX0 71 yX0_isParallel, Cond.instanceMethod yX0_isParallel, Cond.selects RX0 yX0_isParallel yX0_isParallel, Cond.code yX0_isParallel cX0_isParallel 5 (some .boolean), Cond.methodLink RX0 75 yX0_isTold, Cond.static yX0_isTold, Cond.code yX0_isTold cX0_isTold 2 (some .boolean)]
def wsL_leastFaults : List Cond := .codeWith yL_leastFaults cL_leastFaults 6 (some .int) [(0, 12, 15, 21), (0, 12, 19, 13)] :: ((wsL_leastFaults_r1 ++ (wsL_leastFaults_r2 ++ (wsL_leastFaults_r3 ++ wsL_leastFaults_r4))) ++ wsX20 ++ wsX00 ++ (vx_atS RX2 141 "java/lang/IndexOutOfBoundsException" ["java/lang/RuntimeException", "java/lang/Exception"]).filter goodWord ++ (vx_atS RX2 39 "java/lang/IllegalArgumentException" ["java/lang/RuntimeException", "java/lang/Exception"]).filter goodWord)
def wsL_shift_r1 : List Cond := [Cond.classLink RL 21 "java/lang/IndexOutOfBoundsException", Cond.classLink RL 13 "java/lang/IllegalArgumentException", Cond.classLink RL 15 "java/lang/IllegalStateException", Cond.methodLink RL 50 yX2_shift, Cond.instanceMethod yX2_shift, Cond.selects RX2 yX2_shift yX2_shift, Cond.initialized RX2, Cond.code yX2_shift cX2_shift 5 (some .int), Cond.classLink RX2 46 "java/lang/IllegalStateException", Cond.initialized "java/lang/IllegalStateException", Cond.methodLink RX2 102 yX2_pieceAt, Cond.instanceMethod yX2_pieceAt, Cond.selects RX2 yX2_pieceAt yX2_pieceAt, Cond.code yX2_pieceAt cX2_pieceAt 3 (some (.object "ChoirPlanner$Piece")), Cond.classLink RX2 137 "java/lang/IndexOutOfBoundsException", Cond.initialized "java/lang/IndexOutOfBoundsException", Cond.fieldLink RX2 93 "ChoirPlanner" "pieceCount" "I", Cond.fieldLink RX2 18 "ChoirPlanner" "pieces" "[LChoirPlanner$Piece;", Cond.methodLink RX2 58 yX2_checkDate, Cond.static yX2_checkDate, Cond.code yX2_checkDate cX2_checkDate 1 none, Cond.classLink RX2 35 "java/lang/IllegalArgumentException", Cond.initialized "java/lang/IllegalArgumentException", Cond.methodLink RX2 145 yX2_nearestShift]
def wsL_shift_r2 : List Cond := [Cond.instanceMethod yX2_nearestShift, Cond.selects RX2 yX2_nearestShift yX2_nearestShift, Cond.code yX2_nearestShift cX2_nearestShift 6 (some .int), Cond.fieldLink RX2 12 "ChoirPlanner" "roster" "LChoirPlanner$Roster;", Cond.methodLink RX2 198 Lib.Math.max.name, Cond.static Lib.Math.max.name, Cond.initialized "java/lang/Math", Cond.code Lib.Math.max.name Lib.Math.max.code 2 (some .int), Cond.methodLink RX2 206 Lib.Math.min.name, Cond.static Lib.Math.min.name, Cond.code Lib.Math.min.name Lib.Math.min.code 2 (some .int), Cond.methodLink RX2 73 yX1_firstTone, Cond.instanceMethod yX1_firstTone, Cond.selects RX1 yX1_firstTone yX1_firstTone, Cond.initialized RX1, Cond.code yX1_firstTone cX1_firstTone 5 (some .int), Cond.fieldLink RX1 24 "ChoirPlanner$Roster" "size" "I", Cond.fieldLink RX1 15 "ChoirPlanner$Roster" "lowest" "[I", Cond.methodLink RX1 32 Lib.Math.max.name, Cond.methodLink RX1 28 yX1_sings, Cond.instanceMethod yX1_sings, Cond.selects RX1 yX1_sings yX1_sings, Cond.code yX1_sings cX1_sings 4 (some .boolean), Cond.fieldLink RX1 9 "ChoirPlanner$Roster" "voices" "[I"]
def wsL_shift_r3 : List Cond := [Cond.methodLink RX1 41 yX1_isThere, Cond.instanceMethod yX1_isThere, Cond.selects RX1 yX1_isThere yX1_isThere, Cond.code yX1_isThere cX1_isThere 3 (some .boolean), Cond.fieldLink RX1 21 "ChoirPlanner$Roster" "away" "[I", Cond.methodLink RX2 195 yX0_lowestTone, Cond.instanceMethod yX0_lowestTone, Cond.selects RX0 yX0_lowestTone yX0_lowestTone, Cond.initialized RX0, Cond.code yX0_lowestTone cX0_lowestTone 4 (some .int), Cond.fieldLink RX0 21 "ChoirPlanner$Piece" "size" "I", Cond.methodLink RX0 36 Lib.Math.min.name, Cond.methodLink RX0 32 yX0_toneAt, Cond.instanceMethod yX0_toneAt, Cond.selects RX0 yX0_toneAt yX0_toneAt, Cond.code yX0_toneAt cX0_toneAt 3 (some .int), Cond.fieldLink RX0 9 "ChoirPlanner$Piece" "tones" "[I", Cond.methodLink RX2 76 yX1_lastTone, Cond.instanceMethod yX1_lastTone, Cond.selects RX1 yX1_lastTone yX1_lastTone, Cond.code yX1_lastTone cX1_lastTone 5 (some .int), Cond.fieldLink RX1 18 "ChoirPlanner$Roster" "highest" "[I", Cond.methodLink RX1 38 Lib.Math.min.name, Cond.methodLink RX2 203 yX0_highestTone]
def wsL_shift_r4 : List Cond := [Cond.instanceMethod yX0_highestTone, Cond.selects RX0 yX0_highestTone yX0_highestTone, Cond.code yX0_highestTone cX0_highestTone 4 (some .int), Cond.methodLink RX0 41 Lib.Math.max.name]
def wsL_shift : List Cond := .codeWith yL_shift cL_shift 5 (some .int) [(0, 10, 13, 21), (0, 10, 17, 13), (0, 10, 21, 15)] :: ((wsL_shift_r1 ++ (wsL_shift_r2 ++ (wsL_shift_r3 ++ wsL_shift_r4))) ++ wsX20 ++ wsX10 ++ wsX00 ++ (vx_atS RX2 50 "java/lang/IllegalStateException" ["java/lang/RuntimeException", "java/lang/Exception"]).filter goodWord ++ (vx_atS RX2 141 "java/lang/IndexOutOfBoundsException" ["java/lang/RuntimeException", "java/lang/Exception"]).filter goodWord ++ (vx_atS RX2 39 "java/lang/IllegalArgumentException" ["java/lang/RuntimeException", "java/lang/Exception"]).filter goodWord)
def wsL_dates_r1 : List Cond := [Cond.classLink RL 21 "java/lang/IndexOutOfBoundsException", Cond.methodLink RL 53 yX2_dates, Cond.instanceMethod yX2_dates, Cond.selects RX2 yX2_dates yX2_dates, Cond.initialized RX2, Cond.code yX2_dates cX2_dates 5 (some .int), Cond.methodLink RX2 102 yX2_pieceAt, Cond.instanceMethod yX2_pieceAt, Cond.selects RX2 yX2_pieceAt yX2_pieceAt, Cond.code yX2_pieceAt cX2_pieceAt 3 (some (.object "ChoirPlanner$Piece")), Cond.classLink RX2 137 "java/lang/IndexOutOfBoundsException", Cond.initialized "java/lang/IndexOutOfBoundsException", Cond.fieldLink RX2 93 "ChoirPlanner" "pieceCount" "I", Cond.fieldLink RX2 18 "ChoirPlanner" "pieces" "[LChoirPlanner$Piece;", Cond.methodLink RX2 145 yX2_nearestShift, Cond.instanceMethod yX2_nearestShift, Cond.selects RX2 yX2_nearestShift yX2_nearestShift, Cond.code yX2_nearestShift cX2_nearestShift 6 (some .int), Cond.fieldLink RX2 12 "ChoirPlanner" "roster" "LChoirPlanner$Roster;", Cond.methodLink RX2 198 Lib.Math.max.name, Cond.static Lib.Math.max.name, Cond.initialized "java/lang/Math", Cond.code Lib.Math.max.name Lib.Math.max.code 2 (some .int), Cond.methodLink RX2 206 Lib.Math.min.name]
def wsL_dates_r2 : List Cond := [Cond.static Lib.Math.min.name, Cond.code Lib.Math.min.name Lib.Math.min.code 2 (some .int), Cond.methodLink RX2 73 yX1_firstTone, Cond.instanceMethod yX1_firstTone, Cond.selects RX1 yX1_firstTone yX1_firstTone, Cond.initialized RX1, Cond.code yX1_firstTone cX1_firstTone 5 (some .int), Cond.fieldLink RX1 24 "ChoirPlanner$Roster" "size" "I", Cond.fieldLink RX1 15 "ChoirPlanner$Roster" "lowest" "[I", Cond.methodLink RX1 32 Lib.Math.max.name, Cond.methodLink RX1 28 yX1_sings, Cond.instanceMethod yX1_sings, Cond.selects RX1 yX1_sings yX1_sings, Cond.code yX1_sings cX1_sings 4 (some .boolean), Cond.fieldLink RX1 9 "ChoirPlanner$Roster" "voices" "[I", Cond.methodLink RX1 41 yX1_isThere, Cond.instanceMethod yX1_isThere, Cond.selects RX1 yX1_isThere yX1_isThere, Cond.code yX1_isThere cX1_isThere 3 (some .boolean), Cond.fieldLink RX1 21 "ChoirPlanner$Roster" "away" "[I", Cond.methodLink RX2 195 yX0_lowestTone, Cond.instanceMethod yX0_lowestTone, Cond.selects RX0 yX0_lowestTone yX0_lowestTone, Cond.initialized RX0]
def wsL_dates_r3 : List Cond := [Cond.code yX0_lowestTone cX0_lowestTone 4 (some .int), Cond.fieldLink RX0 21 "ChoirPlanner$Piece" "size" "I", Cond.methodLink RX0 36 Lib.Math.min.name, Cond.methodLink RX0 32 yX0_toneAt, Cond.instanceMethod yX0_toneAt, Cond.selects RX0 yX0_toneAt yX0_toneAt, Cond.code yX0_toneAt cX0_toneAt 3 (some .int), Cond.fieldLink RX0 9 "ChoirPlanner$Piece" "tones" "[I", Cond.methodLink RX2 76 yX1_lastTone, Cond.instanceMethod yX1_lastTone, Cond.selects RX1 yX1_lastTone yX1_lastTone, Cond.code yX1_lastTone cX1_lastTone 5 (some .int), Cond.fieldLink RX1 18 "ChoirPlanner$Roster" "highest" "[I", Cond.methodLink RX1 38 Lib.Math.min.name, Cond.methodLink RX2 203 yX0_highestTone, Cond.instanceMethod yX0_highestTone, Cond.selects RX0 yX0_highestTone yX0_highestTone, Cond.code yX0_highestTone cX0_highestTone 4 (some .int), Cond.methodLink RX0 41 Lib.Math.max.name]
def wsL_dates : List Cond := .codeWith yL_dates cL_dates 4 (some .int) [(0, 9, 12, 21)] :: ((wsL_dates_r1 ++ (wsL_dates_r2 ++ wsL_dates_r3)) ++ wsX20 ++ wsX10 ++ wsX00 ++ (vx_atS RX2 141 "java/lang/IndexOutOfBoundsException" ["java/lang/RuntimeException", "java/lang/Exception"]).filter goodWord)
def wsL_missed_r1 : List Cond := [Cond.classLink RL 13 "java/lang/IllegalArgumentException", Cond.methodLink RL 56 yX2_missed, Cond.instanceMethod yX2_missed, Cond.selects RX2 yX2_missed yX2_missed, Cond.initialized RX2, Cond.code yX2_missed cX2_missed 2 (some .int), Cond.fieldLink RX2 12 "ChoirPlanner" "roster" "LChoirPlanner$Roster;", Cond.methodLink RX2 58 yX2_checkDate, Cond.static yX2_checkDate, Cond.code yX2_checkDate cX2_checkDate 1 none, Cond.classLink RX2 35 "java/lang/IllegalArgumentException", Cond.initialized "java/lang/IllegalArgumentException", Cond.methodLink RX2 151 yX1_countMissed, Cond.instanceMethod yX1_countMissed, Cond.selects RX1 yX1_countMissed yX1_countMissed, Cond.initialized RX1, Cond.code yX1_countMissed cX1_countMissed 4 (some .int), Cond.fieldLink RX1 24 "ChoirPlanner$Roster" "size" "I", Cond.fieldLink RX1 9 "ChoirPlanner$Roster" "voices" "[I", Cond.methodLink RX1 41 yX1_isThere, Cond.instanceMethod yX1_isThere, Cond.selects RX1 yX1_isThere yX1_isThere, Cond.code yX1_isThere cX1_isThere 3 (some .boolean), Cond.fieldLink RX1 21 "ChoirPlanner$Roster" "away" "[I"]
def wsL_missed_r2 : List Cond := [Cond.methodLink RX1 45 yX1_lastTone, Cond.instanceMethod yX1_lastTone, Cond.selects RX1 yX1_lastTone yX1_lastTone, Cond.code yX1_lastTone cX1_lastTone 5 (some .int), Cond.fieldLink RX1 18 "ChoirPlanner$Roster" "highest" "[I", Cond.methodLink RX1 38 Lib.Math.min.name, Cond.static Lib.Math.min.name, Cond.initialized "java/lang/Math", Cond.code Lib.Math.min.name Lib.Math.min.code 2 (some .int), Cond.methodLink RX1 28 yX1_sings, Cond.instanceMethod yX1_sings, Cond.selects RX1 yX1_sings yX1_sings, Cond.code yX1_sings cX1_sings 4 (some .boolean)]
def wsL_missed : List Cond := .codeWith yL_missed cL_missed 4 (some .int) [(0, 9, 12, 13)] :: ((wsL_missed_r1 ++ wsL_missed_r2) ++ wsX20 ++ wsX10 ++ (vx_atS RX2 39 "java/lang/IllegalArgumentException" ["java/lang/RuntimeException", "java/lang/Exception"]).filter goodWord)
def wsL_programme_r1 : List Cond := [Cond.classLink RL 13 "java/lang/IllegalArgumentException", Cond.methodLink RL 59 yX2_programme, Cond.instanceMethod yX2_programme, Cond.selects RX2 yX2_programme yX2_programme, Cond.initialized RX2, Cond.code yX2_programme cX2_programme 3 (some .int), Cond.methodLink RX2 58 yX2_checkDate, Cond.static yX2_checkDate, Cond.code yX2_checkDate cX2_checkDate 1 none, Cond.classLink RX2 35 "java/lang/IllegalArgumentException", Cond.initialized "java/lang/IllegalArgumentException", Cond.methodLink RX2 154 yX2_checkTime, Cond.static yX2_checkTime, Cond.code yX2_checkTime cX2_checkTime 1 none, Cond.methodLink RX2 157 yX2_bestSet, Cond.instanceMethod yX2_bestSet, Cond.selects RX2 yX2_bestSet yX2_bestSet, Cond.code yX2_bestSet cX2_bestSet 6 (some .int), Cond.fieldLink RX2 93 "ChoirPlanner" "pieceCount" "I", Cond.methodLink RX2 209 yX2_singableSet, Cond.instanceMethod yX2_singableSet, Cond.selects RX2 yX2_singableSet yX2_singableSet, Cond.code yX2_singableSet cX2_singableSet 4 (some .int), Cond.methodLink RX2 102 yX2_pieceAt]
def wsL_programme_r2 : List Cond := [Cond.instanceMethod yX2_pieceAt, Cond.selects RX2 yX2_pieceAt yX2_pieceAt, Cond.code yX2_pieceAt cX2_pieceAt 3 (some (.object "ChoirPlanner$Piece")), Cond.classLink RX2 137 "java/lang/IndexOutOfBoundsException", Cond.initialized "java/lang/IndexOutOfBoundsException", Cond.fieldLink RX2 18 "ChoirPlanner" "pieces" "[LChoirPlanner$Piece;", Cond.methodLink RX2 145 yX2_nearestShift, Cond.instanceMethod yX2_nearestShift, Cond.selects RX2 yX2_nearestShift yX2_nearestShift, Cond.code yX2_nearestShift cX2_nearestShift 6 (some .int), Cond.fieldLink RX2 12 "ChoirPlanner" "roster" "LChoirPlanner$Roster;", Cond.methodLink RX2 198 Lib.Math.max.name, Cond.static Lib.Math.max.name, Cond.initialized "java/lang/Math", Cond.code Lib.Math.max.name Lib.Math.max.code 2 (some .int), Cond.methodLink RX2 206 Lib.Math.min.name, Cond.static Lib.Math.min.name, Cond.code Lib.Math.min.name Lib.Math.min.code 2 (some .int), Cond.methodLink RX2 73 yX1_firstTone, Cond.instanceMethod yX1_firstTone, Cond.selects RX1 yX1_firstTone yX1_firstTone, Cond.initialized RX1, Cond.code yX1_firstTone cX1_firstTone 5 (some .int), Cond.fieldLink RX1 24 "ChoirPlanner$Roster" "size" "I"]
def wsL_programme_r3 : List Cond := [Cond.fieldLink RX1 15 "ChoirPlanner$Roster" "lowest" "[I", Cond.methodLink RX1 32 Lib.Math.max.name, Cond.methodLink RX1 28 yX1_sings, Cond.instanceMethod yX1_sings, Cond.selects RX1 yX1_sings yX1_sings, Cond.code yX1_sings cX1_sings 4 (some .boolean), Cond.fieldLink RX1 9 "ChoirPlanner$Roster" "voices" "[I", Cond.methodLink RX1 41 yX1_isThere, Cond.instanceMethod yX1_isThere, Cond.selects RX1 yX1_isThere yX1_isThere, Cond.code yX1_isThere cX1_isThere 3 (some .boolean), Cond.fieldLink RX1 21 "ChoirPlanner$Roster" "away" "[I", Cond.methodLink RX2 195 yX0_lowestTone, Cond.instanceMethod yX0_lowestTone, Cond.selects RX0 yX0_lowestTone yX0_lowestTone, Cond.initialized RX0, Cond.code yX0_lowestTone cX0_lowestTone 4 (some .int), Cond.fieldLink RX0 21 "ChoirPlanner$Piece" "size" "I", Cond.methodLink RX0 36 Lib.Math.min.name, Cond.methodLink RX0 32 yX0_toneAt, Cond.instanceMethod yX0_toneAt, Cond.selects RX0 yX0_toneAt yX0_toneAt, Cond.code yX0_toneAt cX0_toneAt 3 (some .int), Cond.fieldLink RX0 9 "ChoirPlanner$Piece" "tones" "[I"]
def wsL_programme_r4 : List Cond := [Cond.methodLink RX2 76 yX1_lastTone, Cond.instanceMethod yX1_lastTone, Cond.selects RX1 yX1_lastTone yX1_lastTone, Cond.code yX1_lastTone cX1_lastTone 5 (some .int), Cond.fieldLink RX1 18 "ChoirPlanner$Roster" "highest" "[I", Cond.methodLink RX1 38 Lib.Math.min.name, Cond.methodLink RX2 203 yX0_highestTone, Cond.instanceMethod yX0_highestTone, Cond.selects RX0 yX0_highestTone yX0_highestTone, Cond.code yX0_highestTone cX0_highestTone 4 (some .int), Cond.methodLink RX0 41 Lib.Math.max.name, Cond.methodLink RX2 160 yX2_lengthOf, Cond.instanceMethod yX2_lengthOf, Cond.selects RX2 yX2_lengthOf yX2_lengthOf, Cond.code yX2_lengthOf cX2_lengthOf 4 (some .int), Cond.methodLink RX2 215 yX0_length, Cond.instanceMethod yX0_length, Cond.selects RX0 yX0_length yX0_length, Cond.code yX0_length cX0_length 1 (some .int), Cond.fieldLink RX0 25 "ChoirPlanner$Piece" "seconds" "I", Cond.methodLink RX2 212 yX2_isBetter, Cond.instanceMethod yX2_isBetter, Cond.selects RX2 yX2_isBetter yX2_isBetter, Cond.code yX2_isBetter cX2_isBetter 7 (some .boolean)]
def wsL_programme_r5 : List Cond := [Cond.methodLink RX2 218 yJ6_bitCount_0f7a4, Cond.static yJ6_bitCount_0f7a4, Cond.initialized RJ6, Cond.code yJ6_bitCount_0f7a4 cJ6_bitCount_0f7a4 1 (some .int), Cond.constant RJ6 265 (1431655765), Cond.constant RJ6 266 (858993459), Cond.constant RJ6 267 (252645135)]
def wsL_programme : List Cond := .codeWith yL_programme cL_programme 5 (some .int) [(0, 10, 13, 13)] :: ((wsL_programme_r1 ++ (wsL_programme_r2 ++ (wsL_programme_r3 ++ (wsL_programme_r4 ++ wsL_programme_r5)))) ++ wsX20 ++ wsX10 ++ wsX00 ++ (vx_atS RX2 39 "java/lang/IllegalArgumentException" ["java/lang/RuntimeException", "java/lang/Exception"]).filter goodWord ++ (vx_atS RX2 141 "java/lang/IndexOutOfBoundsException" ["java/lang/RuntimeException", "java/lang/Exception"]).filter goodWord)
def wsL_duration_r1 : List Cond := [Cond.classLink RL 13 "java/lang/IllegalArgumentException", Cond.methodLink RL 62 yX2_duration, Cond.instanceMethod yX2_duration, Cond.selects RX2 yX2_duration yX2_duration, Cond.initialized RX2, Cond.code yX2_duration cX2_duration 3 (some .int), Cond.methodLink RX2 58 yX2_checkDate, Cond.static yX2_checkDate, Cond.code yX2_checkDate cX2_checkDate 1 none, Cond.classLink RX2 35 "java/lang/IllegalArgumentException", Cond.initialized "java/lang/IllegalArgumentException", Cond.methodLink RX2 154 yX2_checkTime, Cond.static yX2_checkTime, Cond.code yX2_checkTime cX2_checkTime 1 none, Cond.methodLink RX2 157 yX2_bestSet, Cond.instanceMethod yX2_bestSet, Cond.selects RX2 yX2_bestSet yX2_bestSet, Cond.code yX2_bestSet cX2_bestSet 6 (some .int), Cond.fieldLink RX2 93 "ChoirPlanner" "pieceCount" "I", Cond.methodLink RX2 209 yX2_singableSet, Cond.instanceMethod yX2_singableSet, Cond.selects RX2 yX2_singableSet yX2_singableSet, Cond.code yX2_singableSet cX2_singableSet 4 (some .int), Cond.methodLink RX2 102 yX2_pieceAt]
def wsL_duration_r2 : List Cond := [Cond.instanceMethod yX2_pieceAt, Cond.selects RX2 yX2_pieceAt yX2_pieceAt, Cond.code yX2_pieceAt cX2_pieceAt 3 (some (.object "ChoirPlanner$Piece")), Cond.classLink RX2 137 "java/lang/IndexOutOfBoundsException", Cond.initialized "java/lang/IndexOutOfBoundsException", Cond.fieldLink RX2 18 "ChoirPlanner" "pieces" "[LChoirPlanner$Piece;", Cond.methodLink RX2 145 yX2_nearestShift, Cond.instanceMethod yX2_nearestShift, Cond.selects RX2 yX2_nearestShift yX2_nearestShift, Cond.code yX2_nearestShift cX2_nearestShift 6 (some .int), Cond.fieldLink RX2 12 "ChoirPlanner" "roster" "LChoirPlanner$Roster;", Cond.methodLink RX2 198 Lib.Math.max.name, Cond.static Lib.Math.max.name, Cond.initialized "java/lang/Math", Cond.code Lib.Math.max.name Lib.Math.max.code 2 (some .int), Cond.methodLink RX2 206 Lib.Math.min.name, Cond.static Lib.Math.min.name, Cond.code Lib.Math.min.name Lib.Math.min.code 2 (some .int), Cond.methodLink RX2 73 yX1_firstTone, Cond.instanceMethod yX1_firstTone, Cond.selects RX1 yX1_firstTone yX1_firstTone, Cond.initialized RX1, Cond.code yX1_firstTone cX1_firstTone 5 (some .int), Cond.fieldLink RX1 24 "ChoirPlanner$Roster" "size" "I"]
def wsL_duration_r3 : List Cond := [Cond.fieldLink RX1 15 "ChoirPlanner$Roster" "lowest" "[I", Cond.methodLink RX1 32 Lib.Math.max.name, Cond.methodLink RX1 28 yX1_sings, Cond.instanceMethod yX1_sings, Cond.selects RX1 yX1_sings yX1_sings, Cond.code yX1_sings cX1_sings 4 (some .boolean), Cond.fieldLink RX1 9 "ChoirPlanner$Roster" "voices" "[I", Cond.methodLink RX1 41 yX1_isThere, Cond.instanceMethod yX1_isThere, Cond.selects RX1 yX1_isThere yX1_isThere, Cond.code yX1_isThere cX1_isThere 3 (some .boolean), Cond.fieldLink RX1 21 "ChoirPlanner$Roster" "away" "[I", Cond.methodLink RX2 195 yX0_lowestTone, Cond.instanceMethod yX0_lowestTone, Cond.selects RX0 yX0_lowestTone yX0_lowestTone, Cond.initialized RX0, Cond.code yX0_lowestTone cX0_lowestTone 4 (some .int), Cond.fieldLink RX0 21 "ChoirPlanner$Piece" "size" "I", Cond.methodLink RX0 36 Lib.Math.min.name, Cond.methodLink RX0 32 yX0_toneAt, Cond.instanceMethod yX0_toneAt, Cond.selects RX0 yX0_toneAt yX0_toneAt, Cond.code yX0_toneAt cX0_toneAt 3 (some .int), Cond.fieldLink RX0 9 "ChoirPlanner$Piece" "tones" "[I"]
def wsL_duration_r4 : List Cond := [Cond.methodLink RX2 76 yX1_lastTone, Cond.instanceMethod yX1_lastTone, Cond.selects RX1 yX1_lastTone yX1_lastTone, Cond.code yX1_lastTone cX1_lastTone 5 (some .int), Cond.fieldLink RX1 18 "ChoirPlanner$Roster" "highest" "[I", Cond.methodLink RX1 38 Lib.Math.min.name, Cond.methodLink RX2 203 yX0_highestTone, Cond.instanceMethod yX0_highestTone, Cond.selects RX0 yX0_highestTone yX0_highestTone, Cond.code yX0_highestTone cX0_highestTone 4 (some .int), Cond.methodLink RX0 41 Lib.Math.max.name, Cond.methodLink RX2 160 yX2_lengthOf, Cond.instanceMethod yX2_lengthOf, Cond.selects RX2 yX2_lengthOf yX2_lengthOf, Cond.code yX2_lengthOf cX2_lengthOf 4 (some .int), Cond.methodLink RX2 215 yX0_length, Cond.instanceMethod yX0_length, Cond.selects RX0 yX0_length yX0_length, Cond.code yX0_length cX0_length 1 (some .int), Cond.fieldLink RX0 25 "ChoirPlanner$Piece" "seconds" "I", Cond.methodLink RX2 212 yX2_isBetter, Cond.instanceMethod yX2_isBetter, Cond.selects RX2 yX2_isBetter yX2_isBetter, Cond.code yX2_isBetter cX2_isBetter 7 (some .boolean)]
def wsL_duration_r5 : List Cond := [Cond.methodLink RX2 218 yJ6_bitCount_0f7a4, Cond.static yJ6_bitCount_0f7a4, Cond.initialized RJ6, Cond.code yJ6_bitCount_0f7a4 cJ6_bitCount_0f7a4 1 (some .int), Cond.constant RJ6 265 (1431655765), Cond.constant RJ6 266 (858993459), Cond.constant RJ6 267 (252645135)]
def wsL_duration : List Cond := .codeWith yL_duration cL_duration 5 (some .int) [(0, 10, 13, 13)] :: ((wsL_duration_r1 ++ (wsL_duration_r2 ++ (wsL_duration_r3 ++ (wsL_duration_r4 ++ wsL_duration_r5)))) ++ wsX20 ++ wsX10 ++ wsX00 ++ (vx_atS RX2 39 "java/lang/IllegalArgumentException" ["java/lang/RuntimeException", "java/lang/Exception"]).filter goodWord ++ (vx_atS RX2 141 "java/lang/IndexOutOfBoundsException" ["java/lang/RuntimeException", "java/lang/Exception"]).filter goodWord)
def wsL_rehearse_r1 : List Cond := [Cond.classLink RL 21 "java/lang/IndexOutOfBoundsException", Cond.classLink RL 13 "java/lang/IllegalArgumentException", Cond.methodLink RL 65 yX2_rehearse, Cond.instanceMethod yX2_rehearse, Cond.selects RX2 yX2_rehearse yX2_rehearse, Cond.initialized RX2, Cond.code yX2_rehearse cX2_rehearse 5 (some .int), Cond.classLink RX2 35 "java/lang/IllegalArgumentException", Cond.initialized "java/lang/IllegalArgumentException", Cond.methodLink RX2 102 yX2_pieceAt, Cond.instanceMethod yX2_pieceAt, Cond.selects RX2 yX2_pieceAt yX2_pieceAt, Cond.code yX2_pieceAt cX2_pieceAt 3 (some (.object "ChoirPlanner$Piece")), Cond.classLink RX2 137 "java/lang/IndexOutOfBoundsException", Cond.initialized "java/lang/IndexOutOfBoundsException", Cond.fieldLink RX2 93 "ChoirPlanner" "pieceCount" "I", Cond.fieldLink RX2 18 "ChoirPlanner" "pieces" "[LChoirPlanner$Piece;", Cond.methodLink RX2 165 yX0_practiseWeakest, Cond.instanceMethod yX0_practiseWeakest, Cond.selects RX0 yX0_practiseWeakest yX0_practiseWeakest, Cond.initialized RX0, Cond.code yX0_practiseWeakest cX0_practiseWeakest 1 none, Cond.fieldLink RX0 15 "ChoirPlanner$Piece" "practice" "[I", Cond.methodLink RX0 62 yX0_weakestChord]
def wsL_rehearse_r2 : List Cond := [Cond.instanceMethod yX0_weakestChord, Cond.selects RX0 yX0_weakestChord yX0_weakestChord, Cond.code yX0_weakestChord cX0_weakestChord 3 (some .int), Cond.fieldLink RX0 21 "ChoirPlanner$Piece" "size" "I", Cond.methodLink RX0 58 yX0_weaknessOf, Cond.instanceMethod yX0_weaknessOf, Cond.selects RX0 yX0_weaknessOf yX0_weaknessOf, Cond.code yX0_weaknessOf cX0_weaknessOf 2 (some .int), Cond.fieldLink RX0 18 "ChoirPlanner$Piece" "moveFaults" "[I", Cond.methodLink RX0 41 Lib.Math.max.name, Cond.static Lib.Math.max.name, Cond.initialized "java/lang/Math", Cond.code Lib.Math.max.name Lib.Math.max.code 2 (some .int), Cond.methodLink RX2 168 yX0_weaknessSum, Cond.instanceMethod yX0_weaknessSum, Cond.selects RX0 yX0_weaknessSum yX0_weaknessSum, Cond.code yX0_weaknessSum cX0_weaknessSum 3 (some .int)]
def wsL_rehearse : List Cond := .codeWith yL_rehearse cL_rehearse 5 (some .int) [(0, 10, 13, 21), (0, 10, 17, 13)] :: ((wsL_rehearse_r1 ++ wsL_rehearse_r2) ++ wsX20 ++ wsX00 ++ (vx_atS RX2 39 "java/lang/IllegalArgumentException" ["java/lang/RuntimeException", "java/lang/Exception"]).filter goodWord ++ (vx_atS RX2 141 "java/lang/IndexOutOfBoundsException" ["java/lang/RuntimeException", "java/lang/Exception"]).filter goodWord)
def wsL_weakness_r1 : List Cond := [Cond.classLink RL 21 "java/lang/IndexOutOfBoundsException", Cond.methodLink RL 68 yX2_weakness, Cond.instanceMethod yX2_weakness, Cond.selects RX2 yX2_weakness yX2_weakness, Cond.initialized RX2, Cond.code yX2_weakness cX2_weakness 4 (some .int), Cond.methodLink RX2 102 yX2_pieceAt, Cond.instanceMethod yX2_pieceAt, Cond.selects RX2 yX2_pieceAt yX2_pieceAt, Cond.code yX2_pieceAt cX2_pieceAt 3 (some (.object "ChoirPlanner$Piece")), Cond.classLink RX2 137 "java/lang/IndexOutOfBoundsException", Cond.initialized "java/lang/IndexOutOfBoundsException", Cond.fieldLink RX2 93 "ChoirPlanner" "pieceCount" "I", Cond.fieldLink RX2 18 "ChoirPlanner" "pieces" "[LChoirPlanner$Piece;", Cond.methodLink RX2 106 yX2_checkChord, Cond.static yX2_checkChord, Cond.code yX2_checkChord cX2_checkChord 2 none, Cond.methodLink RX2 190 yX0_has, Cond.instanceMethod yX0_has, Cond.selects RX0 yX0_has yX0_has, Cond.initialized RX0, Cond.code yX0_has cX0_has 2 (some .boolean), Cond.fieldLink RX0 21 "ChoirPlanner$Piece" "size" "I", Cond.methodLink RX2 171 yX0_weaknessOf]
def wsL_weakness_r2 : List Cond := [Cond.instanceMethod yX0_weaknessOf, Cond.selects RX0 yX0_weaknessOf yX0_weaknessOf, Cond.code yX0_weaknessOf cX0_weaknessOf 2 (some .int), Cond.fieldLink RX0 18 "ChoirPlanner$Piece" "moveFaults" "[I", Cond.fieldLink RX0 15 "ChoirPlanner$Piece" "practice" "[I", Cond.methodLink RX0 41 Lib.Math.max.name, Cond.static Lib.Math.max.name, Cond.initialized "java/lang/Math", Cond.code Lib.Math.max.name Lib.Math.max.code 2 (some .int)]
def wsL_weakness : List Cond := .codeWith yL_weakness cL_weakness 5 (some .int) [(0, 10, 13, 21)] :: ((wsL_weakness_r1 ++ wsL_weakness_r2) ++ wsX20 ++ wsX00 ++ (vx_atS RX2 141 "java/lang/IndexOutOfBoundsException" ["java/lang/RuntimeException", "java/lang/Exception"]).filter goodWord)
def wsL_weakest_r1 : List Cond := [Cond.classLink RL 21 "java/lang/IndexOutOfBoundsException", Cond.methodLink RL 71 yX2_weakest, Cond.instanceMethod yX2_weakest, Cond.selects RX2 yX2_weakest yX2_weakest, Cond.initialized RX2, Cond.code yX2_weakest cX2_weakest 2 (some .int), Cond.methodLink RX2 102 yX2_pieceAt, Cond.instanceMethod yX2_pieceAt, Cond.selects RX2 yX2_pieceAt yX2_pieceAt, Cond.code yX2_pieceAt cX2_pieceAt 3 (some (.object "ChoirPlanner$Piece")), Cond.classLink RX2 137 "java/lang/IndexOutOfBoundsException", Cond.initialized "java/lang/IndexOutOfBoundsException", Cond.fieldLink RX2 93 "ChoirPlanner" "pieceCount" "I", Cond.fieldLink RX2 18 "ChoirPlanner" "pieces" "[LChoirPlanner$Piece;", Cond.methodLink RX2 174 yX0_weakestChord, Cond.instanceMethod yX0_weakestChord, Cond.selects RX0 yX0_weakestChord yX0_weakestChord, Cond.initialized RX0, Cond.code yX0_weakestChord cX0_weakestChord 3 (some .int), Cond.fieldLink RX0 21 "ChoirPlanner$Piece" "size" "I", Cond.methodLink RX0 58 yX0_weaknessOf, Cond.instanceMethod yX0_weaknessOf, Cond.selects RX0 yX0_weaknessOf yX0_weaknessOf, Cond.code yX0_weaknessOf cX0_weaknessOf 2 (some .int)]
def wsL_weakest_r2 : List Cond := [Cond.fieldLink RX0 18 "ChoirPlanner$Piece" "moveFaults" "[I", Cond.fieldLink RX0 15 "ChoirPlanner$Piece" "practice" "[I", Cond.methodLink RX0 41 Lib.Math.max.name, Cond.static Lib.Math.max.name, Cond.initialized "java/lang/Math", Cond.code Lib.Math.max.name Lib.Math.max.code 2 (some .int)]
def wsL_weakest : List Cond := .codeWith yL_weakest cL_weakest 4 (some .int) [(0, 9, 12, 21)] :: ((wsL_weakest_r1 ++ wsL_weakest_r2) ++ wsX20 ++ wsX00 ++ (vx_atS RX2 141 "java/lang/IndexOutOfBoundsException" ["java/lang/RuntimeException", "java/lang/Exception"]).filter goodWord)
def wsL_law0_r1 : List Cond := [Cond.classLink RL 8 RX2, Cond.instantiable RX2 4, Cond.initialized RX2, Cond.classLink RL 75 RX3, Cond.instantiable RX3 11, Cond.initialized RX3, Cond.arrayClass .long, Cond.methodLink RL 74 yX2_init, Cond.instanceMethod yX2_init, Cond.code yX2_init cX2_init 1 none, Cond.methodLink RX2 3 objectInit, Cond.instanceMethod objectInit, Cond.code objectInit ⟨#[0xb1]⟩ 1 none, Cond.classLink RX2 9 RX1, Cond.instantiable RX1 5, Cond.initialized RX1, Cond.fieldLink RX2 12 "ChoirPlanner" "roster" "LChoirPlanner$Roster;", Cond.classLink RX2 16 RX0, Cond.fieldLink RX2 18 "ChoirPlanner" "pieces" "[LChoirPlanner$Piece;", Cond.instantiable RX0 5, Cond.initialized RX0, Cond.fieldLink RX2 23 "ChoirPlanner" "draft" "LChoirPlanner$Piece;", Cond.instanceMethod yX1_init, Cond.code yX1_init cX1_init 1 none]
def wsL_law0_r2 : List Cond := [Cond.methodLink RX1 3 objectInit, Cond.arrayClass .int, Cond.fieldLink RX1 9 "ChoirPlanner$Roster" "voices" "[I", Cond.fieldLink RX1 15 "ChoirPlanner$Roster" "lowest" "[I", Cond.fieldLink RX1 18 "ChoirPlanner$Roster" "highest" "[I", Cond.fieldLink RX1 21 "ChoirPlanner$Roster" "away" "[I", Cond.instanceMethod yX0_init, Cond.code yX0_init cX0_init 1 none, Cond.methodLink RX0 3 objectInit, Cond.fieldLink RX0 9 "ChoirPlanner$Piece" "tones" "[I", Cond.fieldLink RX0 15 "ChoirPlanner$Piece" "practice" "[I", Cond.fieldLink RX0 18 "ChoirPlanner$Piece" "moveFaults" "[I", Cond.methodLink RL 77 yX3_init, Cond.instanceMethod yX3_init, Cond.code yX3_init cX3_init 1 none, Cond.methodLink RX3 1 objectInit, Cond.fieldLink RX3 7 "ChoirPlannerModel" "voiceOf" "[I", Cond.fieldLink RX3 13 "ChoirPlannerModel" "lows" "[I", Cond.fieldLink RX3 16 "ChoirPlannerModel" "highs" "[I", Cond.fieldLink RX3 19 "ChoirPlannerModel" "away" "[I", Cond.fieldLink RX3 22 "ChoirPlannerModel" "tones" "[I", Cond.fieldLink RX3 25 "ChoirPlannerModel" "chords" "[I", Cond.fieldLink RX3 28 "ChoirPlannerModel" "lengths" "[I", Cond.fieldLink RX3 31 "ChoirPlannerModel" "practice" "[I"]
def wsL_law0_r3 : List Cond := [Cond.methodLink RL 78 yL_addSinger, Cond.static yL_addSinger, Cond.initialized RL, Cond.codeWith yL_addSinger cL_addSinger 6 (some .int) [(0, 12, 15, 13), (0, 12, 19, 15)], Cond.classLink RL 13 "java/lang/IllegalArgumentException", Cond.classLink RL 15 "java/lang/IllegalStateException", Cond.methodLink RL 7 yX2_addSinger, Cond.instanceMethod yX2_addSinger, Cond.selects RX2 yX2_addSinger yX2_addSinger, Cond.code yX2_addSinger cX2_addSinger 4 (some .int), Cond.classLink RX2 35 "java/lang/IllegalArgumentException", Cond.initialized "java/lang/IllegalArgumentException", Cond.classLink RX2 46 "java/lang/IllegalStateException", Cond.initialized "java/lang/IllegalStateException", Cond.methodLink RX2 27 yX2_checkVoice, Cond.static yX2_checkVoice, Cond.code yX2_checkVoice cX2_checkVoice 1 none, Cond.methodLink RX2 31 yX2_checkTone, Cond.static yX2_checkTone, Cond.code yX2_checkTone cX2_checkTone 2 none, Cond.methodLink RX2 42 yX1_isFull, Cond.instanceMethod yX1_isFull, Cond.selects RX1 yX1_isFull yX1_isFull, Cond.code yX1_isFull cX1_isFull 1 (some .boolean)]
def wsL_law0_r4 : List Cond := [Cond.fieldLink RX1 24 "ChoirPlanner$Roster" "size" "I", Cond.methodLink RX2 51 yX1_add, Cond.instanceMethod yX1_add, Cond.selects RX1 yX1_add yX1_add, Cond.code yX1_add cX1_add 5 (some .int), Cond.methodLink RL 83 yX3_addSinger, Cond.instanceMethod yX3_addSinger, Cond.selects RX3 yX3_addSinger yX3_addSinger, Cond.code yX3_addSinger cX3_addSinger 5 (some .int), Cond.fieldLink RX3 42 "ChoirPlannerModel" "singers" "I", Cond.methodLink RX3 52 yX3_isVoice, Cond.static yX3_isVoice, Cond.code yX3_isVoice cX3_isVoice 1 (some .boolean), Cond.methodLink RX3 38 yX3_in, Cond.static yX3_in, Cond.code yX3_in cX3_in 3 (some .boolean), Cond.methodLink RX3 55 yX3_isTone, Cond.static yX3_isTone, Cond.code yX3_isTone cX3_isTone 1 (some .boolean), Cond.methodLink RX3 58 yX3_refused, Cond.instanceMethod yX3_refused, Cond.selects RX3 yX3_refused yX3_refused, Cond.code yX3_refused cX3_refused 2 (some .boolean), Cond.fieldLink RX3 34 "ChoirPlannerModel" "refusal" "I"]
def wsL_law0_r5 : List Cond := [Cond.methodLink RL 84 yX3_thrown, Cond.instanceMethod yX3_thrown, Cond.selects RX3 yX3_thrown yX3_thrown, Cond.code yX3_thrown cX3_thrown 1 (some .int), Cond.methodLink RL 88 yL_tell, Cond.static yL_tell, Cond.codeWith yL_tell cL_tell 6 (some .int) [(0, 19, 22, 21), (0, 19, 26, 13)], Cond.classLink RL 21 "java/lang/IndexOutOfBoundsException", Cond.methodLink RL 17 yX2_tell, Cond.instanceMethod yX2_tell, Cond.selects RX2 yX2_tell yX2_tell, Cond.code yX2_tell cX2_tell 5 (some .boolean), Cond.methodLink RX2 55 yX2_checkSinger, Cond.instanceMethod yX2_checkSinger, Cond.selects RX2 yX2_checkSinger yX2_checkSinger, Cond.code yX2_checkSinger cX2_checkSinger 2 none, Cond.classLink RX2 137 "java/lang/IndexOutOfBoundsException", Cond.initialized "java/lang/IndexOutOfBoundsException", Cond.methodLink RX2 185 yX1_has, Cond.instanceMethod yX1_has, Cond.selects RX1 yX1_has yX1_has, Cond.code yX1_has cX1_has 2 (some .boolean), Cond.methodLink RX2 58 yX2_checkDate, Cond.static yX2_checkDate]
def wsL_law0_r6 : List Cond := [Cond.code yX2_checkDate cX2_checkDate 1 none, Cond.methodLink RX2 61 yX1_isThere, Cond.instanceMethod yX1_isThere, Cond.selects RX1 yX1_isThere yX1_isThere, Cond.code yX1_isThere cX1_isThere 3 (some .boolean), Cond.methodLink RX2 65 yX1_putThere, Cond.instanceMethod yX1_putThere, Cond.selects RX1 yX1_putThere yX1_putThere, Cond.code yX1_putThere cX1_putThere 5 none, Cond.methodLink RL 91 yX3_tell, Cond.instanceMethod yX3_tell, Cond.selects RX3 yX3_tell yX3_tell, Cond.code yX3_tell cX3_tell 5 (some .boolean), Cond.methodLink RX3 61 yX3_isSinger, Cond.instanceMethod yX3_isSinger, Cond.selects RX3 yX3_isSinger yX3_isSinger, Cond.code yX3_isSinger cX3_isSinger 2 (some .boolean), Cond.methodLink RX3 64 yX3_isDate, Cond.static yX3_isDate, Cond.code yX3_isDate cX3_isDate 1 (some .boolean), Cond.methodLink RX3 67 yX3_isThere, Cond.instanceMethod yX3_isThere, Cond.selects RX3 yX3_isThere yX3_isThere, Cond.code yX3_isThere cX3_isThere 3 (some .boolean)]
def wsL_law0_r7 : List Cond := [Cond.methodLink RL 92 yL_change, Cond.static yL_change, Cond.codeWith yL_change cL_change 5 (some .int) [(0, 10, 13, 21), (0, 10, 17, 13)], Cond.methodLink RL 23 yX2_change, Cond.instanceMethod yX2_change, Cond.selects RX2 yX2_change yX2_change, Cond.code yX2_change cX2_change 3 (some .int), Cond.methodLink RX2 69 yX1_replaceVoice, Cond.instanceMethod yX1_replaceVoice, Cond.selects RX1 yX1_replaceVoice yX1_replaceVoice, Cond.code yX1_replaceVoice cX1_replaceVoice 4 (some .int), Cond.methodLink RL 95 yX3_change, Cond.instanceMethod yX3_change, Cond.selects RX3 yX3_change yX3_change, Cond.code yX3_change cX3_change 4 (some .int), Cond.methodLink RL 96 yL_range, Cond.static yL_range, Cond.codeWith yL_range cL_range 5 (some .int) [(0, 10, 13, 13)], Cond.methodLink RL 27 yX2_range, Cond.instanceMethod yX2_range, Cond.selects RX2 yX2_range yX2_range, Cond.code yX2_range cX2_range 5 (some .int), Cond.methodLink RX2 73 yX1_firstTone, Cond.instanceMethod yX1_firstTone]
def wsL_law0_r8 : List Cond := [Cond.selects RX1 yX1_firstTone yX1_firstTone, Cond.code yX1_firstTone cX1_firstTone 5 (some .int), Cond.methodLink RX1 32 Lib.Math.max.name, Cond.static Lib.Math.max.name, Cond.initialized "java/lang/Math", Cond.code Lib.Math.max.name Lib.Math.max.code 2 (some .int), Cond.methodLink RX1 28 yX1_sings, Cond.instanceMethod yX1_sings, Cond.selects RX1 yX1_sings yX1_sings, Cond.code yX1_sings cX1_sings 4 (some .boolean), Cond.methodLink RX1 41 yX1_isThere, Cond.methodLink RX2 76 yX1_lastTone, Cond.instanceMethod yX1_lastTone, Cond.selects RX1 yX1_lastTone yX1_lastTone, Cond.code yX1_lastTone cX1_lastTone 5 (some .int), Cond.methodLink RX1 38 Lib.Math.min.name, Cond.static Lib.Math.min.name, Cond.code Lib.Math.min.name Lib.Math.min.code 2 (some .int), Cond.methodLink RL 98 yX3_range, Cond.instanceMethod yX3_range, Cond.selects RX3 yX3_range yX3_range, Cond.code yX3_range cX3_range 5 (some .int), Cond.methodLink RX3 71 yX3_firstOf, Cond.instanceMethod yX3_firstOf]
def wsL_law0_r9 : List Cond := [Cond.selects RX3 yX3_firstOf yX3_firstOf, Cond.code yX3_firstOf cX3_firstOf 6 (some .int), Cond.methodLink RX3 75 yX3_lastOf, Cond.instanceMethod yX3_lastOf, Cond.selects RX3 yX3_lastOf yX3_lastOf, Cond.code yX3_lastOf cX3_lastOf 6 (some .int), Cond.methodLink RL 99 yL_chord, Cond.static yL_chord, Cond.codeWith yL_chord cL_chord 7 (some .int) [(0, 14, 17, 13), (0, 14, 21, 15)], Cond.methodLink RL 30 yX2_chord, Cond.instanceMethod yX2_chord, Cond.selects RX2 yX2_chord yX2_chord, Cond.code yX2_chord cX2_chord 5 (some .int), Cond.methodLink RX2 79 yX0_isFull, Cond.instanceMethod yX0_isFull, Cond.selects RX0 yX0_isFull yX0_isFull, Cond.code yX0_isFull cX0_isFull 1 (some .boolean), Cond.fieldLink RX0 21 "ChoirPlanner$Piece" "size" "I", Cond.methodLink RX2 82 yX0_append, Cond.instanceMethod yX0_append, Cond.selects RX0 yX0_append yX0_append, Cond.code yX0_append cX0_append 6 (some .int), Cond.methodLink RX0 28 yX0_countMoveFaults, Cond.instanceMethod yX0_countMoveFaults]
def wsL_law0_r10 : List Cond := [Cond.selects RX0 yX0_countMoveFaults yX0_countMoveFaults, Cond.code yX0_countMoveFaults cX0_countMoveFaults 5 none, Cond.methodLink RX0 68 Lib.Math.abs.name, Cond.static Lib.Math.abs.name, Cond.code Lib.Math.abs.name Lib.Math.abs.code 1 (some .int), Cond.methodLink RX0 65 yX0_stepInto, Cond.instanceMethod yX0_stepInto, Cond.selects RX0 yX0_stepInto yX0_stepInto, Cond.code yX0_stepInto cX0_stepInto 3 (some .int), Cond.methodLink RX0 32 yX0_toneAt, Cond.instanceMethod yX0_toneAt, Cond.selects RX0 yX0_toneAt yX0_toneAt, Cond.code yX0_toneAt cX0_toneAt 3 (some .int), Cond.methodLink RX0 71 yX0_isParallel, Cond.instanceMethod yX0_isParallel, Cond.selects RX0 yX0_isParallel yX0_isParallel, Cond.code yX0_isParallel cX0_isParallel 5 (some .boolean), Cond.methodLink RX0 75 yX0_isTold, Cond.static yX0_isTold, Cond.code yX0_isTold cX0_isTold 2 (some .boolean), Cond.methodLink RL 102 yX3_chord, Cond.instanceMethod yX3_chord, Cond.selects RX3 yX3_chord yX3_chord, Cond.code yX3_chord cX3_chord 7 (some .int)]
def wsL_law0_r11 : List Cond := [Cond.fieldLink RX3 45 "ChoirPlannerModel" "pieces" "I", Cond.methodLink RL 103 yL_addPiece, Cond.static yL_addPiece, Cond.codeWith yL_addPiece cL_addPiece 4 (some .int) [(0, 9, 12, 13), (0, 9, 15, 15)], Cond.methodLink RL 34 yX2_addPiece, Cond.instanceMethod yX2_addPiece, Cond.selects RX2 yX2_addPiece yX2_addPiece, Cond.code yX2_addPiece cX2_addPiece 3 (some .int), Cond.fieldLink RX2 93 "ChoirPlanner" "pieceCount" "I", Cond.methodLink RX2 88 yX0_isEmpty, Cond.instanceMethod yX0_isEmpty, Cond.selects RX0 yX0_isEmpty yX0_isEmpty, Cond.code yX0_isEmpty cX0_isEmpty 1 (some .boolean), Cond.methodLink RX2 99 yX0_putLength, Cond.instanceMethod yX0_putLength, Cond.selects RX0 yX0_putLength yX0_putLength, Cond.code yX0_putLength cX0_putLength 2 none, Cond.fieldLink RX0 25 "ChoirPlanner$Piece" "seconds" "I", Cond.methodLink RL 106 yX3_addPiece, Cond.instanceMethod yX3_addPiece, Cond.selects RX3 yX3_addPiece yX3_addPiece, Cond.code yX3_addPiece cX3_addPiece 3 (some .int), Cond.methodLink RL 107 yL_setTone, Cond.static yL_setTone]
def wsL_law0_r12 : List Cond := [Cond.codeWith yL_setTone cL_setTone 7 (some .int) [(0, 14, 17, 21), (0, 14, 21, 13), (0, 14, 25, 15)], Cond.methodLink RL 38 yX2_setTone, Cond.instanceMethod yX2_setTone, Cond.selects RX2 yX2_setTone yX2_setTone, Cond.code yX2_setTone cX2_setTone 7 (some .int), Cond.methodLink RX2 102 yX2_pieceAt, Cond.instanceMethod yX2_pieceAt, Cond.selects RX2 yX2_pieceAt yX2_pieceAt, Cond.code yX2_pieceAt cX2_pieceAt 3 (some (.object "ChoirPlanner$Piece")), Cond.methodLink RX2 106 yX2_checkChord, Cond.static yX2_checkChord, Cond.code yX2_checkChord cX2_checkChord 2 none, Cond.methodLink RX2 190 yX0_has, Cond.instanceMethod yX0_has, Cond.selects RX0 yX0_has yX0_has, Cond.code yX0_has cX0_has 2 (some .boolean), Cond.methodLink RX2 110 yX0_ceiling, Cond.instanceMethod yX0_ceiling, Cond.selects RX0 yX0_ceiling yX0_ceiling, Cond.code yX0_ceiling cX0_ceiling 3 (some .int), Cond.methodLink RX2 113 yX0_floor, Cond.instanceMethod yX0_floor, Cond.selects RX0 yX0_floor yX0_floor, Cond.code yX0_floor cX0_floor 3 (some .int)]
def wsL_law0_r13 : List Cond := [Cond.methodLink RX2 118 yX0_toneAt, Cond.methodLink RX2 121 yX0_putTone, Cond.instanceMethod yX0_putTone, Cond.selects RX0 yX0_putTone yX0_putTone, Cond.code yX0_putTone cX0_putTone 4 none, Cond.methodLink RL 109 yX3_setTone, Cond.instanceMethod yX3_setTone, Cond.selects RX3 yX3_setTone yX3_setTone, Cond.code yX3_setTone cX3_setTone 8 (some .int), Cond.methodLink RX3 82 yX3_isChord, Cond.instanceMethod yX3_isChord, Cond.selects RX3 yX3_isChord yX3_isChord, Cond.code yX3_isChord cX3_isChord 3 (some .boolean), Cond.methodLink RX3 48 yX3_isPiece, Cond.instanceMethod yX3_isPiece, Cond.selects RX3 yX3_isPiece yX3_isPiece, Cond.code yX3_isPiece cX3_isPiece 2 (some .boolean), Cond.methodLink RX3 85 yX3_floorOf, Cond.instanceMethod yX3_floorOf, Cond.selects RX3 yX3_floorOf yX3_floorOf, Cond.code yX3_floorOf cX3_floorOf 4 (some .int), Cond.methodLink RX3 78 yX3_toneAt, Cond.instanceMethod yX3_toneAt, Cond.selects RX3 yX3_toneAt yX3_toneAt]
def wsL_law0_r14 : List Cond := [Cond.code yX3_toneAt cX3_toneAt 4 (some .int), Cond.methodLink RX3 88 yX3_roofOf, Cond.instanceMethod yX3_roofOf, Cond.selects RX3 yX3_roofOf yX3_roofOf, Cond.code yX3_roofOf cX3_roofOf 4 (some .int), Cond.methodLink RL 110 yL_faultsAt, Cond.static yL_faultsAt, Cond.codeWith yL_faultsAt cL_faultsAt 5 (some .int) [(0, 10, 13, 21)], Cond.methodLink RL 41 yX2_faultsAt, Cond.instanceMethod yX2_faultsAt, Cond.selects RX2 yX2_faultsAt yX2_faultsAt, Cond.code yX2_faultsAt cX2_faultsAt 4 (some .int), Cond.methodLink RX2 125 yX0_faultsInto, Cond.instanceMethod yX0_faultsInto, Cond.selects RX0 yX0_faultsInto yX0_faultsInto, Cond.code yX0_faultsInto cX0_faultsInto 2 (some .int), Cond.methodLink RL 112 yX3_faultsAt, Cond.instanceMethod yX3_faultsAt, Cond.selects RX3 yX3_faultsAt yX3_faultsAt, Cond.code yX3_faultsAt cX3_faultsAt 3 (some .int), Cond.methodLink RX3 95 yX3_faultsOf, Cond.instanceMethod yX3_faultsOf, Cond.selects RX3 yX3_faultsOf yX3_faultsOf, Cond.code yX3_faultsOf cX3_faultsOf 7 (some .int)]
def wsL_law0_r15 : List Cond := [Cond.methodLink RX3 91 yX3_isParallel, Cond.instanceMethod yX3_isParallel, Cond.selects RX3 yX3_isParallel yX3_isParallel, Cond.code yX3_isParallel cX3_isParallel 8 (some .boolean), Cond.methodLink RL 113 yL_faults, Cond.static yL_faults, Cond.codeWith yL_faults cL_faults 4 (some .int) [(0, 9, 12, 21)], Cond.methodLink RL 44 yX2_faults, Cond.instanceMethod yX2_faults, Cond.selects RX2 yX2_faults yX2_faults, Cond.code yX2_faults cX2_faults 2 (some .int), Cond.methodLink RX2 129 yX0_faultSum, Cond.instanceMethod yX0_faultSum, Cond.selects RX0 yX0_faultSum yX0_faultSum, Cond.code yX0_faultSum cX0_faultSum 3 (some .int), Cond.methodLink RL 115 yX3_faults, Cond.instanceMethod yX3_faults, Cond.selects RX3 yX3_faults yX3_faults, Cond.code yX3_faults cX3_faults 2 (some .int), Cond.methodLink RX3 98 yX3_allFaults, Cond.instanceMethod yX3_allFaults, Cond.selects RX3 yX3_allFaults yX3_allFaults, Cond.code yX3_allFaults cX3_allFaults 4 (some .int), Cond.methodLink RL 116 yL_leastFaults]
def wsL_law0_r16 : List Cond := [Cond.static yL_leastFaults, Cond.codeWith yL_leastFaults cL_leastFaults 6 (some .int) [(0, 12, 15, 21), (0, 12, 19, 13)], Cond.methodLink RL 47 yX2_leastFaults, Cond.instanceMethod yX2_leastFaults, Cond.selects RX2 yX2_leastFaults yX2_leastFaults, Cond.code yX2_leastFaults cX2_leastFaults 5 (some .int), Cond.methodLink RX2 133 yX0_isLast, Cond.instanceMethod yX0_isLast, Cond.selects RX0 yX0_isLast yX0_isLast, Cond.code yX0_isLast cX0_isLast 2 (some .boolean), Cond.methodLink RX2 142 yX0_leastFaultSum, Cond.instanceMethod yX0_leastFaultSum, Cond.selects RX0 yX0_leastFaultSum yX0_leastFaultSum, Cond.code yX0_leastFaultSum cX0_leastFaultSum 7 (some .int), Cond.methodLink RX0 36 Lib.Math.min.name, Cond.methodLink RX0 44 yX0_ceiling, Cond.methodLink RX0 47 yX0_faultSum, Cond.methodLink RX0 51 yX0_floor, Cond.methodLink RX0 54 yX0_putTone, Cond.methodLink RL 118 yX3_leastFaults, Cond.instanceMethod yX3_leastFaults, Cond.selects RX3 yX3_leastFaults yX3_leastFaults, Cond.code yX3_leastFaults cX3_leastFaults 10 (some .int), Cond.methodLink RL 119 yL_shift]
def wsL_law0_r17 : List Cond := [Cond.static yL_shift, Cond.codeWith yL_shift cL_shift 5 (some .int) [(0, 10, 13, 21), (0, 10, 17, 13), (0, 10, 21, 15)], Cond.methodLink RL 50 yX2_shift, Cond.instanceMethod yX2_shift, Cond.selects RX2 yX2_shift yX2_shift, Cond.code yX2_shift cX2_shift 5 (some .int), Cond.methodLink RX2 145 yX2_nearestShift, Cond.instanceMethod yX2_nearestShift, Cond.selects RX2 yX2_nearestShift yX2_nearestShift, Cond.code yX2_nearestShift cX2_nearestShift 6 (some .int), Cond.methodLink RX2 198 Lib.Math.max.name, Cond.methodLink RX2 206 Lib.Math.min.name, Cond.methodLink RX2 195 yX0_lowestTone, Cond.instanceMethod yX0_lowestTone, Cond.selects RX0 yX0_lowestTone yX0_lowestTone, Cond.code yX0_lowestTone cX0_lowestTone 4 (some .int), Cond.methodLink RX2 203 yX0_highestTone, Cond.instanceMethod yX0_highestTone, Cond.selects RX0 yX0_highestTone yX0_highestTone, Cond.code yX0_highestTone cX0_highestTone 4 (some .int), Cond.methodLink RX0 41 Lib.Math.max.name, Cond.methodLink RL 121 yX3_shift, Cond.instanceMethod yX3_shift, Cond.selects RX3 yX3_shift yX3_shift]
def wsL_law0_r18 : List Cond := [Cond.code yX3_shift cX3_shift 5 (some .int), Cond.methodLink RX3 105 yX3_shiftOf, Cond.instanceMethod yX3_shiftOf, Cond.selects RX3 yX3_shiftOf yX3_shiftOf, Cond.code yX3_shiftOf cX3_shiftOf 4 (some .int), Cond.methodLink RX3 102 yX3_fits, Cond.instanceMethod yX3_fits, Cond.selects RX3 yX3_fits yX3_fits, Cond.code yX3_fits cX3_fits 9 (some .boolean), Cond.methodLink RL 122 yL_dates, Cond.static yL_dates, Cond.codeWith yL_dates cL_dates 4 (some .int) [(0, 9, 12, 21)], Cond.methodLink RL 53 yX2_dates, Cond.instanceMethod yX2_dates, Cond.selects RX2 yX2_dates yX2_dates, Cond.code yX2_dates cX2_dates 5 (some .int), Cond.methodLink RL 124 yX3_dates, Cond.instanceMethod yX3_dates, Cond.selects RX3 yX3_dates yX3_dates, Cond.code yX3_dates cX3_dates 4 (some .int), Cond.methodLink RL 125 yL_missed, Cond.static yL_missed, Cond.codeWith yL_missed cL_missed 4 (some .int) [(0, 9, 12, 13)], Cond.methodLink RL 56 yX2_missed]
def wsL_law0_r19 : List Cond := [Cond.instanceMethod yX2_missed, Cond.selects RX2 yX2_missed yX2_missed, Cond.code yX2_missed cX2_missed 2 (some .int), Cond.methodLink RX2 151 yX1_countMissed, Cond.instanceMethod yX1_countMissed, Cond.selects RX1 yX1_countMissed yX1_countMissed, Cond.code yX1_countMissed cX1_countMissed 4 (some .int), Cond.methodLink RX1 45 yX1_lastTone, Cond.methodLink RL 127 yX3_missed, Cond.instanceMethod yX3_missed, Cond.selects RX3 yX3_missed yX3_missed, Cond.code yX3_missed cX3_missed 4 (some .int), Cond.methodLink RL 128 yL_programme, Cond.static yL_programme, Cond.codeWith yL_programme cL_programme 5 (some .int) [(0, 10, 13, 13)], Cond.methodLink RL 59 yX2_programme, Cond.instanceMethod yX2_programme, Cond.selects RX2 yX2_programme yX2_programme, Cond.code yX2_programme cX2_programme 3 (some .int), Cond.methodLink RX2 154 yX2_checkTime, Cond.static yX2_checkTime, Cond.code yX2_checkTime cX2_checkTime 1 none, Cond.methodLink RX2 157 yX2_bestSet, Cond.instanceMethod yX2_bestSet]
def wsL_law0_r20 : List Cond := [Cond.selects RX2 yX2_bestSet yX2_bestSet, Cond.code yX2_bestSet cX2_bestSet 6 (some .int), Cond.methodLink RX2 209 yX2_singableSet, Cond.instanceMethod yX2_singableSet, Cond.selects RX2 yX2_singableSet yX2_singableSet, Cond.code yX2_singableSet cX2_singableSet 4 (some .int), Cond.methodLink RX2 160 yX2_lengthOf, Cond.instanceMethod yX2_lengthOf, Cond.selects RX2 yX2_lengthOf yX2_lengthOf, Cond.code yX2_lengthOf cX2_lengthOf 4 (some .int), Cond.methodLink RX2 215 yX0_length, Cond.instanceMethod yX0_length, Cond.selects RX0 yX0_length yX0_length, Cond.code yX0_length cX0_length 1 (some .int), Cond.methodLink RX2 212 yX2_isBetter, Cond.instanceMethod yX2_isBetter, Cond.selects RX2 yX2_isBetter yX2_isBetter, Cond.code yX2_isBetter cX2_isBetter 7 (some .boolean), Cond.methodLink RX2 218 yJ6_bitCount_0f7a4, Cond.static yJ6_bitCount_0f7a4, Cond.initialized RJ6, Cond.code yJ6_bitCount_0f7a4 cJ6_bitCount_0f7a4 1 (some .int), Cond.constant RJ6 265 (1431655765), Cond.constant RJ6 266 (858993459)]
def wsL_law0_r21 : List Cond := [Cond.constant RJ6 267 (252645135), Cond.methodLink RL 130 yX3_programme, Cond.instanceMethod yX3_programme, Cond.selects RX3 yX3_programme yX3_programme, Cond.code yX3_programme cX3_programme 3 (some .int), Cond.methodLink RX3 117 yX3_noDate, Cond.instanceMethod yX3_noDate, Cond.selects RX3 yX3_noDate yX3_noDate, Cond.code yX3_noDate cX3_noDate 3 (some .boolean), Cond.methodLink RX3 120 yX3_planned, Cond.instanceMethod yX3_planned, Cond.selects RX3 yX3_planned yX3_planned, Cond.code yX3_planned cX3_planned 7 (some .int), Cond.methodLink RX3 108 yX3_lengthOf, Cond.instanceMethod yX3_lengthOf, Cond.selects RX3 yX3_lengthOf yX3_lengthOf, Cond.code yX3_lengthOf cX3_lengthOf 4 (some .int), Cond.methodLink RX3 114 yX3_isBetter, Cond.instanceMethod yX3_isBetter, Cond.selects RX3 yX3_isBetter yX3_isBetter, Cond.code yX3_isBetter cX3_isBetter 7 (some .boolean), Cond.methodLink RX3 111 yX3_bits, Cond.static yX3_bits, Cond.code yX3_bits cX3_bits 3 (some .int)]
def wsL_law0_r22 : List Cond := [Cond.methodLink RL 131 yL_duration, Cond.static yL_duration, Cond.codeWith yL_duration cL_duration 5 (some .int) [(0, 10, 13, 13)], Cond.methodLink RL 62 yX2_duration, Cond.instanceMethod yX2_duration, Cond.selects RX2 yX2_duration yX2_duration, Cond.code yX2_duration cX2_duration 3 (some .int), Cond.methodLink RL 133 yX3_duration, Cond.instanceMethod yX3_duration, Cond.selects RX3 yX3_duration yX3_duration, Cond.code yX3_duration cX3_duration 3 (some .int), Cond.methodLink RL 134 yL_rehearse, Cond.static yL_rehearse, Cond.codeWith yL_rehearse cL_rehearse 5 (some .int) [(0, 10, 13, 21), (0, 10, 17, 13)], Cond.methodLink RL 65 yX2_rehearse, Cond.instanceMethod yX2_rehearse, Cond.selects RX2 yX2_rehearse yX2_rehearse, Cond.code yX2_rehearse cX2_rehearse 5 (some .int), Cond.methodLink RX2 165 yX0_practiseWeakest, Cond.instanceMethod yX0_practiseWeakest, Cond.selects RX0 yX0_practiseWeakest yX0_practiseWeakest, Cond.code yX0_practiseWeakest cX0_practiseWeakest 1 none, Cond.methodLink RX0 62 yX0_weakestChord, Cond.instanceMethod yX0_weakestChord]
def wsL_law0_r23 : List Cond := [Cond.selects RX0 yX0_weakestChord yX0_weakestChord, Cond.code yX0_weakestChord cX0_weakestChord 3 (some .int), Cond.methodLink RX0 58 yX0_weaknessOf, Cond.instanceMethod yX0_weaknessOf, Cond.selects RX0 yX0_weaknessOf yX0_weaknessOf, Cond.code yX0_weaknessOf cX0_weaknessOf 2 (some .int), Cond.methodLink RX2 168 yX0_weaknessSum, Cond.instanceMethod yX0_weaknessSum, Cond.selects RX0 yX0_weaknessSum yX0_weaknessSum, Cond.code yX0_weaknessSum cX0_weaknessSum 3 (some .int), Cond.methodLink RL 136 yX3_rehearse, Cond.instanceMethod yX3_rehearse, Cond.selects RX3 yX3_rehearse yX3_rehearse, Cond.code yX3_rehearse cX3_rehearse 5 (some .int), Cond.methodLink RX3 126 yX3_weakestOf, Cond.instanceMethod yX3_weakestOf, Cond.selects RX3 yX3_weakestOf yX3_weakestOf, Cond.code yX3_weakestOf cX3_weakestOf 4 (some .int), Cond.methodLink RX3 123 yX3_weaknessOf, Cond.instanceMethod yX3_weaknessOf, Cond.selects RX3 yX3_weaknessOf yX3_weaknessOf, Cond.code yX3_weaknessOf cX3_weaknessOf 4 (some .int), Cond.methodLink RL 137 yL_weakness, Cond.static yL_weakness]
def wsL_law0_r24 : List Cond := [Cond.codeWith yL_weakness cL_weakness 5 (some .int) [(0, 10, 13, 21)], Cond.methodLink RL 68 yX2_weakness, Cond.instanceMethod yX2_weakness, Cond.selects RX2 yX2_weakness yX2_weakness, Cond.code yX2_weakness cX2_weakness 4 (some .int), Cond.methodLink RX2 171 yX0_weaknessOf, Cond.methodLink RL 139 yX3_weakness, Cond.instanceMethod yX3_weakness, Cond.selects RX3 yX3_weakness yX3_weakness, Cond.code yX3_weakness cX3_weakness 3 (some .int), Cond.methodLink RL 140 yL_weakest, Cond.static yL_weakest, Cond.codeWith yL_weakest cL_weakest 4 (some .int) [(0, 9, 12, 21)], Cond.methodLink RL 71 yX2_weakest, Cond.instanceMethod yX2_weakest, Cond.selects RX2 yX2_weakest yX2_weakest, Cond.code yX2_weakest cX2_weakest 2 (some .int), Cond.methodLink RX2 174 yX0_weakestChord, Cond.methodLink RL 142 yX3_weakest, Cond.instanceMethod yX3_weakest, Cond.selects RX3 yX3_weakest yX3_weakest, Cond.code yX3_weakest cX3_weakest 2 (some .int)]
def wsL_law0 : List Cond := (wsL_law0_r1 ++ (wsL_law0_r2 ++ (wsL_law0_r3 ++ (wsL_law0_r4 ++ (wsL_law0_r5 ++ (wsL_law0_r6 ++ (wsL_law0_r7 ++ (wsL_law0_r8 ++ (wsL_law0_r9 ++ (wsL_law0_r10 ++ (wsL_law0_r11 ++ (wsL_law0_r12 ++ (wsL_law0_r13 ++ (wsL_law0_r14 ++ (wsL_law0_r15 ++ (wsL_law0_r16 ++ (wsL_law0_r17 ++ (wsL_law0_r18 ++ (wsL_law0_r19 ++ (wsL_law0_r20 ++ (wsL_law0_r21 ++ (wsL_law0_r22 ++ (wsL_law0_r23 ++ wsL_law0_r24))))))))))))))))))))))) ++ wsX20 ++ wsX30 ++ wsX10 ++ wsX00 ++ ([] : List Cond)
def wsL_law : List Cond := wsL_law0 ++ (vx_atS RX2 39 "java/lang/IllegalArgumentException" ["java/lang/RuntimeException", "java/lang/Exception"]).filter goodWord ++ (vx_atS RX2 50 "java/lang/IllegalStateException" ["java/lang/RuntimeException", "java/lang/Exception"]).filter goodWord ++ (vx_atS RX2 141 "java/lang/IndexOutOfBoundsException" ["java/lang/RuntimeException", "java/lang/Exception"]).filter goodWord
end
section
set_option maxRecDepth 20000 in
theorem wsL_law0_r1_in : ∀ w ∈ wsL_law0_r1, w ∈ lw_tbl := fun w h => (goodIn_p wsL_law0_r1 [50, 53, 58] (by decide +kernel) (by decide +kernel) w h).1
set_option maxRecDepth 20000 in
theorem wsL_law0_r2_in : ∀ w ∈ wsL_law0_r2, w ∈ lw_tbl := fun w h => (goodIn_p wsL_law0_r2 [82, 566] (by decide +kernel) (by decide +kernel) w h).1
set_option maxRecDepth 20000 in
theorem wsL_law0_r3_in : ∀ w ∈ wsL_law0_r3, w ∈ lw_tbl := fun w h => (goodIn_p wsL_law0_r3 [121, 124, 195, 201] (by decide +kernel) (by decide +kernel) w h).1
set_option maxRecDepth 20000 in
theorem wsL_law0_r4_in : ∀ w ∈ wsL_law0_r4, w ∈ lw_tbl := fun w h => (goodIn_p wsL_law0_r4 [221, 609, 612, 615, 618, 622] (by decide +kernel) (by decide +kernel) w h).1
set_option maxRecDepth 20000 in
theorem wsL_law0_r5_in : ∀ w ∈ wsL_law0_r5, w ∈ lw_tbl := fun w h => (goodIn_p wsL_law0_r5 [605, 229, 233, 237] (by decide +kernel) (by decide +kernel) w h).1
set_option maxRecDepth 20000 in
theorem wsL_law0_r6_in : ∀ w ∈ wsL_law0_r6, w ∈ lw_tbl := fun w h => (goodIn_p wsL_law0_r6 [256, 261, 265, 626, 630, 633, 637] (by decide +kernel) (by decide +kernel) w h).1
end
section
set_option maxRecDepth 20000 in
theorem wsL_law0_r7_in : ∀ w ∈ wsL_law0_r7, w ∈ lw_tbl := fun w h => (goodIn_p wsL_law0_r7 [272, 276, 641, 283] (by decide +kernel) (by decide +kernel) w h).1
set_option maxRecDepth 20000 in
theorem wsL_law0_r8_in : ∀ w ∈ wsL_law0_r8, w ∈ lw_tbl := fun w h => (goodIn_p wsL_law0_r8 [287, 295, 291, 299, 302, 645] (by decide +kernel) (by decide +kernel) w h).1
set_option maxRecDepth 20000 in
theorem wsL_law0_r9_in : ∀ w ∈ wsL_law0_r9, w ∈ lw_tbl := fun w h => (goodIn_p wsL_law0_r9 [649, 653, 309, 313, 318] (by decide +kernel) (by decide +kernel) w h).1
set_option maxRecDepth 20000 in
theorem wsL_law0_r10_in : ∀ w ∈ wsL_law0_r10, w ∈ lw_tbl := fun w h => (goodIn_p wsL_law0_r10 [322, 333, 326, 330, 337, 340, 657] (by decide +kernel) (by decide +kernel) w h).1
set_option maxRecDepth 20000 in
theorem wsL_law0_r11_in : ∀ w ∈ wsL_law0_r11, w ∈ lw_tbl := fun w h => (goodIn_p wsL_law0_r11 [347, 352, 358, 661] (by decide +kernel) (by decide +kernel) w h).1
set_option maxRecDepth 20000 in
theorem wsL_law0_r12_in : ∀ w ∈ wsL_law0_r12, w ∈ lw_tbl := fun w h => (goodIn_p wsL_law0_r12 [365, 369, 373, 377, 382, 386] (by decide +kernel) (by decide +kernel) w h).1
end
section
set_option maxRecDepth 20000 in
theorem wsL_law0_r13_in : ∀ w ∈ wsL_law0_r13, w ∈ lw_tbl := fun w h => (goodIn_p wsL_law0_r13 [392, 665, 669, 673, 677] (by decide +kernel) (by decide +kernel) w h).1
set_option maxRecDepth 20000 in
theorem wsL_law0_r14_in : ∀ w ∈ wsL_law0_r14, w ∈ lw_tbl := fun w h => (goodIn_p wsL_law0_r14 [681, 685, 399, 403, 689, 693] (by decide +kernel) (by decide +kernel) w h).1
set_option maxRecDepth 20000 in
theorem wsL_law0_r15_in : ∀ w ∈ wsL_law0_r15, w ∈ lw_tbl := fun w h => (goodIn_p wsL_law0_r15 [697, 410, 414, 701, 705] (by decide +kernel) (by decide +kernel) w h).1
set_option maxRecDepth 20000 in
theorem wsL_law0_r16_in : ∀ w ∈ wsL_law0_r16, w ∈ lw_tbl := fun w h => (goodIn_p wsL_law0_r16 [421, 425, 430, 709] (by decide +kernel) (by decide +kernel) w h).1
set_option maxRecDepth 20000 in
theorem wsL_law0_r17_in : ∀ w ∈ wsL_law0_r17, w ∈ lw_tbl := fun w h => (goodIn_p wsL_law0_r17 [442, 446, 450, 455] (by decide +kernel) (by decide +kernel) w h).1
set_option maxRecDepth 20000 in
theorem wsL_law0_r18_in : ∀ w ∈ wsL_law0_r18, w ∈ lw_tbl := fun w h => (goodIn_p wsL_law0_r18 [713, 717, 721, 465, 725] (by decide +kernel) (by decide +kernel) w h).1
end
section
set_option maxRecDepth 20000 in
theorem wsL_law0_r19_in : ∀ w ∈ wsL_law0_r19, w ∈ lw_tbl := fun w h => (goodIn_p wsL_law0_r19 [472, 476, 729, 484, 487] (by decide +kernel) (by decide +kernel) w h).1
set_option maxRecDepth 20000 in
theorem wsL_law0_r20_in : ∀ w ∈ wsL_law0_r20, w ∈ lw_tbl := fun w h => (goodIn_p wsL_law0_r20 [492, 496, 500, 504, 508, 511] (by decide +kernel) (by decide +kernel) w h).1
set_option maxRecDepth 20000 in
theorem wsL_law0_r21_in : ∀ w ∈ wsL_law0_r21, w ∈ lw_tbl := fun w h => (goodIn_p wsL_law0_r21 [733, 737, 741, 745, 749, 752] (by decide +kernel) (by decide +kernel) w h).1
set_option maxRecDepth 20000 in
theorem wsL_law0_r22_in : ∀ w ∈ wsL_law0_r22, w ∈ lw_tbl := fun w h => (goodIn_p wsL_law0_r22 [521, 756, 528, 533] (by decide +kernel) (by decide +kernel) w h).1
set_option maxRecDepth 20000 in
theorem wsL_law0_r23_in : ∀ w ∈ wsL_law0_r23, w ∈ lw_tbl := fun w h => (goodIn_p wsL_law0_r23 [537, 541, 545, 760, 764, 768] (by decide +kernel) (by decide +kernel) w h).1
set_option maxRecDepth 20000 in
theorem wsL_law0_r24_in : ∀ w ∈ wsL_law0_r24, w ∈ lw_tbl := fun w h => (goodIn_p wsL_law0_r24 [552, 772, 560, 776] (by decide +kernel) (by decide +kernel) w h).1
set_option maxRecDepth 20000 in
theorem inqX2 : ∀ w ∈ wsX20, w ∈ lw_tbl := by decide +kernel
set_option maxRecDepth 20000 in
theorem inqX3 : ∀ w ∈ wsX30, w ∈ lw_tbl := by decide +kernel
set_option maxRecDepth 20000 in
theorem inqX1 : ∀ w ∈ wsX10, w ∈ lw_tbl := by decide +kernel
set_option maxRecDepth 20000 in
theorem inqX0 : ∀ w ∈ wsX00, w ∈ lw_tbl := by decide +kernel
set_option maxRecDepth 20000 in
theorem wsL_law_in0 : ∀ w ∈ wsL_law0, w ∈ lw_tbl := fun w h => (fun h => (List.mem_append.mp h).elim (fun h => (List.mem_append.mp h).elim (fun h => (List.mem_append.mp h).elim (fun h => (List.mem_append.mp h).elim (fun h => (List.mem_append.mp h).elim (fun h => (List.mem_append.mp h).elim (fun h => wsL_law0_r1_in w h) (fun h => (List.mem_append.mp h).elim (fun h => wsL_law0_r2_in w h) (fun h => (List.mem_append.mp h).elim (fun h => wsL_law0_r3_in w h) (fun h => (List.mem_append.mp h).elim (fun h => wsL_law0_r4_in w h) (fun h => (List.mem_append.mp h).elim (fun h => wsL_law0_r5_in w h) (fun h => (List.mem_append.mp h).elim (fun h => wsL_law0_r6_in w h) (fun h => (List.mem_append.mp h).elim (fun h => wsL_law0_r7_in w h) (fun h => (List.mem_append.mp h).elim (fun h => wsL_law0_r8_in w h) (fun h => (List.mem_append.mp h).elim (fun h => wsL_law0_r9_in w h) (fun h => (List.mem_append.mp h).elim (fun h => wsL_law0_r10_in w h) (fun h => (List.mem_append.mp h).elim (fun h => wsL_law0_r11_in w h) (fun h => (List.mem_append.mp h).elim (fun h => wsL_law0_r12_in w h) (fun h => (List.mem_append.mp h).elim (fun h => wsL_law0_r13_in w h) (fun h => (List.mem_append.mp h).elim (fun h => wsL_law0_r14_in w h) (fun h => (List.mem_append.mp h).elim (fun h => wsL_law0_r15_in w h) (fun h => (List.mem_append.mp h).elim (fun h => wsL_law0_r16_in w h) (fun h => (List.mem_append.mp h).elim (fun h => wsL_law0_r17_in w h) (fun h => (List.mem_append.mp h).elim (fun h => wsL_law0_r18_in w h) (fun h => (List.mem_append.mp h).elim (fun h => wsL_law0_r19_in w h) (fun h => (List.mem_append.mp h).elim (fun h => wsL_law0_r20_in w h) (fun h => (List.mem_append.mp h).elim (fun h => wsL_law0_r21_in w h) (fun h => (List.mem_append.mp h).elim (fun h => wsL_law0_r22_in w h) (fun h => (List.mem_append.mp h).elim (fun h => wsL_law0_r23_in w h) (fun h => wsL_law0_r24_in w h)))))))))))))))))))))))) (fun h => inqX2 w h)) (fun h => inqX3 w h)) (fun h => inqX1 w h)) (fun h => inqX0 w h)) (fun h => absurd h List.not_mem_nil)) h
end
section
theorem wsL_law_x0 : ∀ w ∈ (vx_atS RX2 39 "java/lang/IllegalArgumentException" ["java/lang/RuntimeException", "java/lang/Exception"]).filter goodWord, w ∈ lw_tbl := by decide +kernel
theorem wsL_law_x1 : ∀ w ∈ (vx_atS RX2 50 "java/lang/IllegalStateException" ["java/lang/RuntimeException", "java/lang/Exception"]).filter goodWord, w ∈ lw_tbl := by decide +kernel
theorem wsL_law_x2 : ∀ w ∈ (vx_atS RX2 141 "java/lang/IndexOutOfBoundsException" ["java/lang/RuntimeException", "java/lang/Exception"]).filter goodWord, w ∈ lw_tbl := by decide +kernel
theorem wsL_law_in : ∀ w ∈ wsL_law, w ∈ lw_tbl := fun w h => (List.mem_append.mp h).elim (fun h => (List.mem_append.mp h).elim (fun h => (List.mem_append.mp h).elim (fun h => wsL_law_in0 w h) (fun h => wsL_law_x0 w h)) (fun h => wsL_law_x1 w h)) (fun h => wsL_law_x2 w h)
theorem inlX0 : ∀ w ∈ wsX00, w ∈ wsL_law := fun _ h => List.mem_append_left _ (List.mem_append_left _ (List.mem_append_left _ (List.mem_append_left _ (List.mem_append_right _ h))))
theorem inX0 : ∀ w ∈ wsX00, w ∈ lw_tbl := fun w h => wsL_law_in w (inlX0 w h)
theorem inlX1 : ∀ w ∈ wsX10, w ∈ wsL_law := fun _ h => List.mem_append_left _ (List.mem_append_left _ (List.mem_append_left _ (List.mem_append_left _ (List.mem_append_left _ (List.mem_append_right _ h)))))
theorem inX1 : ∀ w ∈ wsX10, w ∈ lw_tbl := fun w h => wsL_law_in w (inlX1 w h)
theorem inlX2 : ∀ w ∈ wsX20, w ∈ wsL_law := fun _ h => List.mem_append_left _ (List.mem_append_left _ (List.mem_append_left _ (List.mem_append_left _ (List.mem_append_left _ (List.mem_append_left _ (List.mem_append_left _ (List.mem_append_right _ h)))))))
theorem inX2 : ∀ w ∈ wsX20, w ∈ lw_tbl := fun w h => wsL_law_in w (inlX2 w h)
theorem inlX3 : ∀ w ∈ wsX30, w ∈ wsL_law := fun _ h => List.mem_append_left _ (List.mem_append_left _ (List.mem_append_left _ (List.mem_append_left _ (List.mem_append_left _ (List.mem_append_left _ (List.mem_append_right _ h))))))
theorem inX3 : ∀ w ∈ wsX30, w ∈ lw_tbl := fun w h => wsL_law_in w (inlX3 w h)
theorem inJ6 : ∀ w ∈ wsJ60, w ∈ lw_tbl := by decide +kernel
theorem inJ9 : ∀ w ∈ wsJ90, w ∈ lw_tbl := by decide +kernel
theorem inJ0 : ∀ w ∈ wsJ00, w ∈ lw_tbl := by decide +kernel
set_option maxRecDepth 20000 in
theorem ggX0_append_X0_countMoveFaults : GoodIn wsX0_append wsX0_countMoveFaults := goodIn_r _ [7, 1, 8, 9, 10, 11, 12, 13, 14, 15, 6, 16, 17, 18, 19, 20, 2, 21, 22, 23, 24, 25, 26, 27, 28, 29, 30, 31, 32] (by decide +kernel) (by decide +kernel)
set_option maxRecDepth 20000 in
theorem gX0_append_X0_countMoveFaults : GoodIn wsX0_append (wsV RX0 28 RX0 yX0_countMoveFaults wsX0_countMoveFaults) := goodIn_app (goodIn_of _ (by decide +kernel)) ggX0_append_X0_countMoveFaults
set_option maxRecDepth 20000 in
theorem ggX0_putTone_X0_countMoveFaults : GoodIn wsX0_putTone wsX0_countMoveFaults := goodIn_r _ [6, 7, 8, 9, 10, 11, 12, 13, 14, 15, 5, 16, 17, 18, 19, 20, 1, 21, 22, 23, 24, 25, 26, 27, 28, 29, 30, 31, 32] (by decide +kernel) (by decide +kernel)
set_option maxRecDepth 20000 in
theorem gX0_putTone_X0_countMoveFaults : GoodIn wsX0_putTone (wsV RX0 28 RX0 yX0_countMoveFaults wsX0_countMoveFaults) := goodIn_app (goodIn_of _ (by decide +kernel)) ggX0_putTone_X0_countMoveFaults
set_option maxRecDepth 20000 in
theorem ggX0_ceiling_X0_toneAt : GoodIn wsX0_ceiling wsX0_toneAt := goodIn_r _ [5, 6, 7, 8, 9, 10, 11] (by decide +kernel) (by decide +kernel)
set_option maxRecDepth 20000 in
theorem gX0_ceiling_X0_toneAt : GoodIn wsX0_ceiling (wsV RX0 32 RX0 yX0_toneAt wsX0_toneAt) := goodIn_app (goodIn_of _ (by decide +kernel)) ggX0_ceiling_X0_toneAt
set_option maxRecDepth 20000 in
theorem ggX0_floor_X0_toneAt : GoodIn wsX0_floor wsX0_toneAt := goodIn_r _ [5, 6, 7, 8, 9, 10, 11] (by decide +kernel) (by decide +kernel)
set_option maxRecDepth 20000 in
theorem gX0_floor_X0_toneAt : GoodIn wsX0_floor (wsV RX0 32 RX0 yX0_toneAt wsX0_toneAt) := goodIn_app (goodIn_of _ (by decide +kernel)) ggX0_floor_X0_toneAt
set_option maxRecDepth 20000 in
theorem ggX0_lowestTone_X0_toneAt : GoodIn wsX0_lowestTone wsX0_toneAt := goodIn_r _ [10, 11, 12, 13, 14, 15, 16] (by decide +kernel) (by decide +kernel)
set_option maxRecDepth 20000 in
theorem gX0_lowestTone_X0_toneAt : GoodIn wsX0_lowestTone (wsV RX0 32 RX0 yX0_toneAt wsX0_toneAt) := goodIn_app (goodIn_of _ (by decide +kernel)) ggX0_lowestTone_X0_toneAt
set_option maxRecDepth 20000 in
theorem ggX0_highestTone_X0_toneAt : GoodIn wsX0_highestTone wsX0_toneAt := goodIn_r _ [10, 11, 12, 13, 14, 15, 16] (by decide +kernel) (by decide +kernel)
set_option maxRecDepth 20000 in
theorem gX0_highestTone_X0_toneAt : GoodIn wsX0_highestTone (wsV RX0 32 RX0 yX0_toneAt wsX0_toneAt) := goodIn_app (goodIn_of _ (by decide +kernel)) ggX0_highestTone_X0_toneAt
set_option maxRecDepth 20000 in
theorem ggX0_leastFaultSum_X0_toneAt : GoodIn wsX0_leastFaultSum wsX0_toneAt := goodIn_r _ [9, 10, 47, 48, 49, 50, 51] (by decide +kernel) (by decide +kernel)
set_option maxRecDepth 20000 in
theorem gX0_leastFaultSum_X0_toneAt : GoodIn wsX0_leastFaultSum (wsV RX0 32 RX0 yX0_toneAt wsX0_toneAt) := goodIn_app (goodIn_of _ (by decide +kernel)) ggX0_leastFaultSum_X0_toneAt
set_option maxRecDepth 20000 in
theorem ggX0_leastFaultSum_X0_ceiling : GoodIn wsX0_leastFaultSum wsX0_ceiling := goodIn_r _ [14, 5, 6, 7, 8, 9, 10, 47, 48, 49, 50, 51] (by decide +kernel) (by decide +kernel)
set_option maxRecDepth 20000 in
theorem gX0_leastFaultSum_X0_ceiling : GoodIn wsX0_leastFaultSum (wsV RX0 44 RX0 yX0_ceiling wsX0_ceiling) := goodIn_app (goodIn_of _ (by decide +kernel)) ggX0_leastFaultSum_X0_ceiling
set_option maxRecDepth 20000 in
theorem ggX0_leastFaultSum_X0_faultSum : GoodIn wsX0_leastFaultSum wsX0_faultSum := goodIn_r _ [18, 19, 20, 47, 48, 49, 50, 51] (by decide +kernel) (by decide +kernel)
set_option maxRecDepth 20000 in
theorem gX0_leastFaultSum_X0_faultSum : GoodIn wsX0_leastFaultSum (wsV RX0 47 RX0 yX0_faultSum wsX0_faultSum) := goodIn_app (goodIn_of _ (by decide +kernel)) ggX0_leastFaultSum_X0_faultSum
set_option maxRecDepth 20000 in
theorem ggX0_leastFaultSum_X0_floor : GoodIn wsX0_leastFaultSum wsX0_floor := goodIn_r _ [24, 5, 6, 7, 8, 9, 10, 47, 48, 49, 50, 51] (by decide +kernel) (by decide +kernel)
set_option maxRecDepth 20000 in
theorem gX0_leastFaultSum_X0_floor : GoodIn wsX0_leastFaultSum (wsV RX0 51 RX0 yX0_floor wsX0_floor) := goodIn_app (goodIn_of _ (by decide +kernel)) ggX0_leastFaultSum_X0_floor
set_option maxRecDepth 20000 in
theorem ggX0_leastFaultSum_X0_putTone : GoodIn wsX0_leastFaultSum wsX0_putTone := goodIn_r _ [28, 10, 29, 30, 31, 8, 32, 19, 33, 34, 3, 35, 20, 36, 37, 38, 39, 5, 6, 7, 9, 40, 41, 42, 43, 44, 45, 46, 47, 48, 49, 50, 51] (by decide +kernel) (by decide +kernel)
set_option maxRecDepth 20000 in
theorem gX0_leastFaultSum_X0_putTone : GoodIn wsX0_leastFaultSum (wsV RX0 54 RX0 yX0_putTone wsX0_putTone) := goodIn_app (goodIn_of _ (by decide +kernel)) ggX0_leastFaultSum_X0_putTone
set_option maxRecDepth 20000 in
theorem ggX0_weaknessSum_X0_weaknessOf : GoodIn wsX0_weaknessSum wsX0_weaknessOf := goodIn_r _ [6, 7, 8, 9, 10, 11, 12, 13, 14, 15, 16, 17] (by decide +kernel) (by decide +kernel)
set_option maxRecDepth 20000 in
theorem gX0_weaknessSum_X0_weaknessOf : GoodIn wsX0_weaknessSum (wsV RX0 58 RX0 yX0_weaknessOf wsX0_weaknessOf) := goodIn_app (goodIn_of _ (by decide +kernel)) ggX0_weaknessSum_X0_weaknessOf
set_option maxRecDepth 20000 in
theorem ggX0_weakestChord_X0_weaknessOf : GoodIn wsX0_weakestChord wsX0_weaknessOf := goodIn_r _ [6, 7, 8, 9, 10, 11, 12, 13, 14, 15, 16, 17] (by decide +kernel) (by decide +kernel)
set_option maxRecDepth 20000 in
theorem gX0_weakestChord_X0_weaknessOf : GoodIn wsX0_weakestChord (wsV RX0 58 RX0 yX0_weaknessOf wsX0_weaknessOf) := goodIn_app (goodIn_of _ (by decide +kernel)) ggX0_weakestChord_X0_weaknessOf
set_option maxRecDepth 20000 in
theorem ggX0_practiseWeakest_X0_weakestChord : GoodIn wsX0_practiseWeakest wsX0_weakestChord := goodIn_r _ [6, 7, 8, 9, 10, 5, 11, 12, 1, 13, 14, 15, 16, 17, 18, 19, 20, 21] (by decide +kernel) (by decide +kernel)
set_option maxRecDepth 20000 in
theorem gX0_practiseWeakest_X0_weakestChord : GoodIn wsX0_practiseWeakest (wsV RX0 62 RX0 yX0_weakestChord wsX0_weakestChord) := goodIn_app (goodIn_of _ (by decide +kernel)) ggX0_practiseWeakest_X0_weakestChord
set_option maxRecDepth 20000 in
theorem ggX0_countMoveFaults_X0_stepInto : GoodIn wsX0_countMoveFaults wsX0_stepInto := goodIn_r _ [11, 12, 13, 14, 10, 15, 16, 24, 25, 26, 27, 28] (by decide +kernel) (by decide +kernel)
set_option maxRecDepth 20000 in
theorem gX0_countMoveFaults_X0_stepInto : GoodIn wsX0_countMoveFaults (wsV RX0 65 RX0 yX0_stepInto wsX0_stepInto) := goodIn_app (goodIn_of _ (by decide +kernel)) ggX0_countMoveFaults_X0_stepInto
set_option maxRecDepth 20000 in
theorem ggX0_countMoveFaults_X0_isParallel : GoodIn wsX0_countMoveFaults wsX0_isParallel := goodIn_r _ [20, 7, 8, 9, 10, 11, 12, 13, 14, 15, 16, 21, 22, 23, 24, 25, 26, 27, 28] (by decide +kernel) (by decide +kernel)
set_option maxRecDepth 20000 in
theorem gX0_countMoveFaults_X0_isParallel : GoodIn wsX0_countMoveFaults (wsV RX0 71 RX0 yX0_isParallel wsX0_isParallel) := goodIn_app (goodIn_of _ (by decide +kernel)) ggX0_countMoveFaults_X0_isParallel
set_option maxRecDepth 20000 in
theorem ggX0_stepInto_X0_toneAt : GoodIn wsX0_stepInto wsX0_toneAt := goodIn_r _ [5, 6, 7, 8, 9, 10, 11] (by decide +kernel) (by decide +kernel)
set_option maxRecDepth 20000 in
theorem gX0_stepInto_X0_toneAt : GoodIn wsX0_stepInto (wsV RX0 32 RX0 yX0_toneAt wsX0_toneAt) := goodIn_app (goodIn_of _ (by decide +kernel)) ggX0_stepInto_X0_toneAt
set_option maxRecDepth 20000 in
theorem ggX0_isParallel_X0_stepInto : GoodIn wsX0_isParallel wsX0_stepInto := goodIn_r _ [5, 6, 7, 8, 4, 9, 10, 14, 15, 16, 17, 18] (by decide +kernel) (by decide +kernel)
set_option maxRecDepth 20000 in
theorem gX0_isParallel_X0_stepInto : GoodIn wsX0_isParallel (wsV RX0 65 RX0 yX0_stepInto wsX0_stepInto) := goodIn_app (goodIn_of _ (by decide +kernel)) ggX0_isParallel_X0_stepInto
set_option maxRecDepth 20000 in
theorem ggX0_isParallel_X0_toneAt : GoodIn wsX0_isParallel wsX0_toneAt := goodIn_r _ [9, 10, 14, 15, 16, 17, 18] (by decide +kernel) (by decide +kernel)
set_option maxRecDepth 20000 in
theorem gX0_isParallel_X0_toneAt : GoodIn wsX0_isParallel (wsV RX0 32 RX0 yX0_toneAt wsX0_toneAt) := goodIn_app (goodIn_of _ (by decide +kernel)) ggX0_isParallel_X0_toneAt
set_option maxRecDepth 20000 in
theorem ggX0_isParallel_X0_isTold : GoodIn wsX0_isParallel wsX0_isTold := goodIn_r _ [13] (by decide +kernel) (by decide +kernel)
set_option maxRecDepth 20000 in
theorem gX0_isParallel_X0_isTold : GoodIn wsX0_isParallel (va_wsS RX0 75 yX0_isTold wsX0_isTold) := goodIn_app (goodIn_of _ (by decide +kernel)) ggX0_isParallel_X0_isTold
set_option maxRecDepth 20000 in
theorem ggX1_firstTone_X1_sings : GoodIn wsX1_firstTone wsX1_sings := goodIn_r _ [11, 12, 13, 14, 15, 10, 16, 17, 18, 19, 20, 21, 22] (by decide +kernel) (by decide +kernel)
set_option maxRecDepth 20000 in
theorem gX1_firstTone_X1_sings : GoodIn wsX1_firstTone (wsV RX1 28 RX1 yX1_sings wsX1_sings) := goodIn_app (goodIn_of _ (by decide +kernel)) ggX1_firstTone_X1_sings
set_option maxRecDepth 20000 in
theorem ggX1_lastTone_X1_sings : GoodIn wsX1_lastTone wsX1_sings := goodIn_r _ [11, 12, 13, 14, 15, 10, 16, 17, 18, 19, 20, 21, 22] (by decide +kernel) (by decide +kernel)
set_option maxRecDepth 20000 in
theorem gX1_lastTone_X1_sings : GoodIn wsX1_lastTone (wsV RX1 28 RX1 yX1_sings wsX1_sings) := goodIn_app (goodIn_of _ (by decide +kernel)) ggX1_lastTone_X1_sings
set_option maxRecDepth 20000 in
theorem ggX1_countMissed_X1_isThere : GoodIn wsX1_countMissed wsX1_isThere := goodIn_r _ [7, 8, 22, 23, 24, 25, 26] (by decide +kernel) (by decide +kernel)
set_option maxRecDepth 20000 in
theorem gX1_countMissed_X1_isThere : GoodIn wsX1_countMissed (wsV RX1 41 RX1 yX1_isThere wsX1_isThere) := goodIn_app (goodIn_of _ (by decide +kernel)) ggX1_countMissed_X1_isThere
set_option maxRecDepth 20000 in
theorem ggX1_countMissed_X1_lastTone : GoodIn wsX1_countMissed wsX1_lastTone := goodIn_r _ [12, 1, 13, 14, 15, 16, 17, 18, 19, 20, 6, 21, 2, 3, 4, 5, 7, 8, 22, 23, 24, 25, 26] (by decide +kernel) (by decide +kernel)
set_option maxRecDepth 20000 in
theorem gX1_countMissed_X1_lastTone : GoodIn wsX1_countMissed (wsV RX1 45 RX1 yX1_lastTone wsX1_lastTone) := goodIn_app (goodIn_of _ (by decide +kernel)) ggX1_countMissed_X1_lastTone
set_option maxRecDepth 20000 in
theorem ggX1_sings_X1_isThere : GoodIn wsX1_sings wsX1_isThere := goodIn_r _ [6, 7, 8, 9, 10, 11, 12] (by decide +kernel) (by decide +kernel)
set_option maxRecDepth 20000 in
theorem gX1_sings_X1_isThere : GoodIn wsX1_sings (wsV RX1 41 RX1 yX1_isThere wsX1_isThere) := goodIn_app (goodIn_of _ (by decide +kernel)) ggX1_sings_X1_isThere
set_option maxRecDepth 20000 in
theorem ggX2_init_X1_init : GoodIn wsX2_init wsX1_init := goodIn_r _ [14, 15, 2, 3, 16, 17, 18, 19, 20, 27, 28, 29, 30, 31] (by decide +kernel) (by decide +kernel)
set_option maxRecDepth 20000 in
theorem gX2_init_X1_init_n11 : GoodIn wsX2_init (wsX1_init) := ggX2_init_X1_init
set_option maxRecDepth 20000 in
theorem ggX2_init_X0_init : GoodIn wsX2_init wsX0_init := goodIn_r _ [22, 23, 2, 3, 16, 24, 25, 26, 36, 37, 38, 39, 40] (by decide +kernel) (by decide +kernel)
set_option maxRecDepth 20000 in
theorem gX2_init_X0_init_n22 : GoodIn wsX2_init (wsX0_init) := ggX2_init_X0_init
set_option maxRecDepth 20000 in
theorem ggX2_addSinger_X2_checkVoice : GoodIn wsX2_addSinger wsX2_checkVoice := goodIn_ca (goodIn_r _ [9, 1, 2] (by decide +kernel) (by decide +kernel)) (goodIn_sub (fun _ h => List.mem_cons_of_mem _ (List.mem_append_left _ (List.mem_append_right _ h))) (by decide +kernel))
set_option maxRecDepth 20000 in
theorem gX2_addSinger_X2_checkVoice : GoodIn wsX2_addSinger (va_wsS RX2 27 yX2_checkVoice wsX2_checkVoice) := goodIn_app (goodIn_of _ (by decide +kernel)) ggX2_addSinger_X2_checkVoice
set_option maxRecDepth 20000 in
theorem ggX2_addSinger_X2_checkTone : GoodIn wsX2_addSinger wsX2_checkTone := goodIn_ca (goodIn_r _ [12, 1, 2] (by decide +kernel) (by decide +kernel)) (goodIn_sub (fun _ h => List.mem_cons_of_mem _ (List.mem_append_left _ (List.mem_append_right _ h))) (by decide +kernel))
set_option maxRecDepth 20000 in
theorem gX2_addSinger_X2_checkTone : GoodIn wsX2_addSinger (va_wsS RX2 31 yX2_checkTone wsX2_checkTone) := goodIn_app (goodIn_of _ (by decide +kernel)) ggX2_addSinger_X2_checkTone
set_option maxRecDepth 20000 in
theorem ggX2_addSinger_X1_isFull : GoodIn wsX2_addSinger wsX1_isFull := goodIn_r _ [17, 18, 30, 31, 32, 33, 34] (by decide +kernel) (by decide +kernel)
set_option maxRecDepth 20000 in
theorem gX2_addSinger_X1_isFull : GoodIn wsX2_addSinger (wsV RX2 42 RX1 yX1_isFull wsX1_isFull) := goodIn_app (goodIn_of _ (by decide +kernel)) ggX2_addSinger_X1_isFull
set_option maxRecDepth 20000 in
theorem ggX2_addSinger_X1_add : GoodIn wsX2_addSinger wsX1_add := goodIn_r _ [22, 18, 23, 24, 25, 30, 31, 32, 33, 34] (by decide +kernel) (by decide +kernel)
set_option maxRecDepth 20000 in
theorem gX2_addSinger_X1_add : GoodIn wsX2_addSinger (wsV RX2 51 RX1 yX1_add wsX1_add) := goodIn_app (goodIn_of _ (by decide +kernel)) ggX2_addSinger_X1_add
set_option maxRecDepth 20000 in
theorem ggX2_tell_X2_checkSinger : GoodIn wsX2_tell wsX2_checkSinger := goodIn_ca (goodIn_r _ [6, 7, 8, 1, 9, 10, 11, 12, 13, 14, 29, 30, 31, 32, 33, 34, 35, 36, 37] (by decide +kernel) (by decide +kernel)) (goodIn_sub (fun _ h => List.mem_cons_of_mem _ (List.mem_append_left _ (List.mem_append_right _ h))) (by decide +kernel))
set_option maxRecDepth 20000 in
theorem gX2_tell_X2_checkSinger : GoodIn wsX2_tell (wsV RX2 55 RX2 yX2_checkSinger wsX2_checkSinger) := goodIn_app (goodIn_of _ (by decide +kernel)) ggX2_tell_X2_checkSinger
set_option maxRecDepth 20000 in
theorem ggX2_tell_X2_checkDate : GoodIn wsX2_tell wsX2_checkDate := goodIn_ca (goodIn_r _ [17, 18, 19] (by decide +kernel) (by decide +kernel)) (goodIn_sub (fun _ h => List.mem_cons_of_mem _ (List.mem_append_right _ h)) (by decide +kernel))
set_option maxRecDepth 20000 in
theorem gX2_tell_X2_checkDate : GoodIn wsX2_tell (va_wsS RX2 58 yX2_checkDate wsX2_checkDate) := goodIn_app (goodIn_of _ (by decide +kernel)) ggX2_tell_X2_checkDate
set_option maxRecDepth 20000 in
theorem ggX2_tell_X1_isThere : GoodIn wsX2_tell wsX1_isThere := goodIn_r _ [23, 24, 33, 34, 35, 36, 37] (by decide +kernel) (by decide +kernel)
set_option maxRecDepth 20000 in
theorem gX2_tell_X1_isThere : GoodIn wsX2_tell (wsV RX2 61 RX1 yX1_isThere wsX1_isThere) := goodIn_app (goodIn_of _ (by decide +kernel)) ggX2_tell_X1_isThere
set_option maxRecDepth 20000 in
theorem ggX2_tell_X1_putThere : GoodIn wsX2_tell wsX1_putThere := goodIn_r _ [28, 24, 33, 34, 35, 36, 37] (by decide +kernel) (by decide +kernel)
set_option maxRecDepth 20000 in
theorem gX2_tell_X1_putThere : GoodIn wsX2_tell (wsV RX2 65 RX1 yX1_putThere wsX1_putThere) := goodIn_app (goodIn_of _ (by decide +kernel)) ggX2_tell_X1_putThere
set_option maxRecDepth 20000 in
theorem ggX2_change_X2_checkSinger : GoodIn wsX2_change wsX2_checkSinger := goodIn_ca (goodIn_r _ [6, 7, 8, 1, 9, 10, 11, 12, 13, 14, 25, 26, 27, 28, 29, 30, 31, 32, 33] (by decide +kernel) (by decide +kernel)) (goodIn_sub (fun _ h => List.mem_cons_of_mem _ (List.mem_append_left _ (List.mem_append_right _ h))) (by decide +kernel))
set_option maxRecDepth 20000 in
theorem gX2_change_X2_checkSinger : GoodIn wsX2_change (wsV RX2 55 RX2 yX2_checkSinger wsX2_checkSinger) := goodIn_app (goodIn_of _ (by decide +kernel)) ggX2_change_X2_checkSinger
set_option maxRecDepth 20000 in
theorem ggX2_change_X2_checkVoice : GoodIn wsX2_change wsX2_checkVoice := goodIn_ca (goodIn_r _ [17, 18, 19] (by decide +kernel) (by decide +kernel)) (goodIn_sub (fun _ h => List.mem_cons_of_mem _ (List.mem_append_right _ h)) (by decide +kernel))
set_option maxRecDepth 20000 in
theorem gX2_change_X2_checkVoice : GoodIn wsX2_change (va_wsS RX2 27 yX2_checkVoice wsX2_checkVoice) := goodIn_app (goodIn_of _ (by decide +kernel)) ggX2_change_X2_checkVoice
set_option maxRecDepth 20000 in
theorem ggX2_change_X1_replaceVoice : GoodIn wsX2_change wsX1_replaceVoice := goodIn_r _ [23, 24, 29, 30, 31, 32, 33] (by decide +kernel) (by decide +kernel)
set_option maxRecDepth 20000 in
theorem gX2_change_X1_replaceVoice : GoodIn wsX2_change (wsV RX2 69 RX1 yX1_replaceVoice wsX1_replaceVoice) := goodIn_app (goodIn_of _ (by decide +kernel)) ggX2_change_X1_replaceVoice
set_option maxRecDepth 20000 in
theorem ggX2_range_X2_checkVoice : GoodIn wsX2_range wsX2_checkVoice := goodIn_ca (goodIn_r _ [5, 6, 7] (by decide +kernel) (by decide +kernel)) (goodIn_sub (fun _ h => List.mem_cons_of_mem _ (List.mem_append_right _ h)) (by decide +kernel))
set_option maxRecDepth 20000 in
theorem gX2_range_X2_checkVoice : GoodIn wsX2_range (va_wsS RX2 27 yX2_checkVoice wsX2_checkVoice) := goodIn_app (goodIn_of _ (by decide +kernel)) ggX2_range_X2_checkVoice
set_option maxRecDepth 20000 in
theorem ggX2_range_X2_checkDate : GoodIn wsX2_range wsX2_checkDate := goodIn_ca (goodIn_r _ [10, 6, 7] (by decide +kernel) (by decide +kernel)) (goodIn_sub (fun _ h => List.mem_cons_of_mem _ (List.mem_append_right _ h)) (by decide +kernel))
set_option maxRecDepth 20000 in
theorem gX2_range_X2_checkDate : GoodIn wsX2_range (va_wsS RX2 58 yX2_checkDate wsX2_checkDate) := goodIn_app (goodIn_of _ (by decide +kernel)) ggX2_range_X2_checkDate
set_option maxRecDepth 20000 in
theorem ggX2_range_X1_firstTone : GoodIn wsX2_range wsX1_firstTone := goodIn_r _ [15, 16, 17, 18, 19, 20, 21, 22, 23, 24, 14, 25, 26, 27, 28, 29, 30, 31, 44, 45, 46, 47, 48] (by decide +kernel) (by decide +kernel)
set_option maxRecDepth 20000 in
theorem gX2_range_X1_firstTone : GoodIn wsX2_range (wsV RX2 73 RX1 yX1_firstTone wsX1_firstTone) := goodIn_app (goodIn_of _ (by decide +kernel)) ggX2_range_X1_firstTone
set_option maxRecDepth 20000 in
theorem ggX2_range_X1_lastTone : GoodIn wsX2_range wsX1_lastTone := goodIn_r _ [35, 16, 36, 37, 38, 20, 39, 22, 23, 24, 14, 25, 26, 27, 28, 29, 30, 31, 44, 45, 46, 47, 48] (by decide +kernel) (by decide +kernel)
set_option maxRecDepth 20000 in
theorem gX2_range_X1_lastTone : GoodIn wsX2_range (wsV RX2 76 RX1 yX1_lastTone wsX1_lastTone) := goodIn_app (goodIn_of _ (by decide +kernel)) ggX2_range_X1_lastTone
set_option maxRecDepth 20000 in
theorem ggX2_chord_X2_checkTone : GoodIn wsX2_chord wsX2_checkTone := goodIn_ca (goodIn_r _ [7, 8, 9] (by decide +kernel) (by decide +kernel)) (goodIn_sub (fun _ h => List.mem_cons_of_mem _ (List.mem_append_right _ h)) (by decide +kernel))
set_option maxRecDepth 20000 in
theorem gX2_chord_X2_checkTone : GoodIn wsX2_chord (va_wsS RX2 31 yX2_checkTone wsX2_checkTone) := goodIn_app (goodIn_of _ (by decide +kernel)) ggX2_chord_X2_checkTone
set_option maxRecDepth 20000 in
theorem ggX2_chord_X0_isFull : GoodIn wsX2_chord wsX0_isFull := goodIn_r _ [14, 15, 49, 50, 51, 52, 53] (by decide +kernel) (by decide +kernel)
set_option maxRecDepth 20000 in
theorem gX2_chord_X0_isFull : GoodIn wsX2_chord (wsV RX2 79 RX0 yX0_isFull wsX0_isFull) := goodIn_app (goodIn_of _ (by decide +kernel)) ggX2_chord_X0_isFull
set_option maxRecDepth 20000 in
theorem ggX2_chord_X0_append : GoodIn wsX2_chord wsX0_append := goodIn_r _ [19, 15, 20, 21, 22, 23, 13, 24, 25, 26, 27, 28, 29, 30, 31, 32, 33, 34, 35, 36, 37, 38, 39, 40, 41, 42, 43, 44, 49, 50, 51, 52, 53] (by decide +kernel) (by decide +kernel)
set_option maxRecDepth 20000 in
theorem gX2_chord_X0_append : GoodIn wsX2_chord (wsV RX2 82 RX0 yX0_append wsX0_append) := goodIn_app (goodIn_of _ (by decide +kernel)) ggX2_chord_X0_append
set_option maxRecDepth 20000 in
theorem ggX2_addPiece_X0_isEmpty : GoodIn wsX2_addPiece wsX0_isEmpty := goodIn_r _ [14, 15, 34, 35, 36, 37, 38] (by decide +kernel) (by decide +kernel)
set_option maxRecDepth 20000 in
theorem gX2_addPiece_X0_isEmpty : GoodIn wsX2_addPiece (wsV RX2 88 RX0 yX0_isEmpty wsX0_isEmpty) := goodIn_app (goodIn_of _ (by decide +kernel)) ggX2_addPiece_X0_isEmpty
set_option maxRecDepth 20000 in
theorem ggX2_addPiece_X0_putLength : GoodIn wsX2_addPiece wsX0_putLength := goodIn_r _ [19, 20, 34, 35, 36, 37, 38] (by decide +kernel) (by decide +kernel)
set_option maxRecDepth 20000 in
theorem gX2_addPiece_X0_putLength : GoodIn wsX2_addPiece (wsV RX2 99 RX0 yX0_putLength wsX0_putLength) := goodIn_app (goodIn_of _ (by decide +kernel)) ggX2_addPiece_X0_putLength
set_option maxRecDepth 20000 in
theorem ggX2_addPiece_X0_init : GoodIn wsX2_addPiece wsX0_init := goodIn_r _ [22, 23, 24, 25, 26, 27, 28, 29, 34, 35, 36, 37, 38] (by decide +kernel) (by decide +kernel)
set_option maxRecDepth 20000 in
theorem gX2_addPiece_X0_init_n22 : GoodIn wsX2_addPiece (wsX0_init) := ggX2_addPiece_X0_init
set_option maxRecDepth 20000 in
theorem ggX2_setTone_X2_pieceAt : GoodIn wsX2_setTone wsX2_pieceAt := goodIn_ca (goodIn_r _ [7, 8, 9, 10, 11, 67, 68, 69, 70] (by decide +kernel) (by decide +kernel)) (goodIn_sub (fun _ h => List.mem_cons_of_mem _ (List.mem_append_left _ (List.mem_append_right _ h))) (by decide +kernel))
set_option maxRecDepth 20000 in
theorem gX2_setTone_X2_pieceAt : GoodIn wsX2_setTone (wsV RX2 102 RX2 yX2_pieceAt wsX2_pieceAt) := goodIn_app (goodIn_of _ (by decide +kernel)) ggX2_setTone_X2_pieceAt
set_option maxRecDepth 20000 in
theorem ggX2_setTone_X2_checkChord : GoodIn wsX2_setTone wsX2_checkChord := goodIn_ca (goodIn_r _ [14, 8, 9, 15, 16, 17, 18, 19, 20, 71, 72, 73, 74, 75] (by decide +kernel) (by decide +kernel)) (goodIn_sub (fun _ h => List.mem_cons_of_mem _ (List.mem_append_left _ (List.mem_append_right _ h))) (by decide +kernel))
set_option maxRecDepth 20000 in
theorem gX2_setTone_X2_checkChord : GoodIn wsX2_setTone (va_wsS RX2 106 yX2_checkChord wsX2_checkChord) := goodIn_app (goodIn_of _ (by decide +kernel)) ggX2_setTone_X2_checkChord
set_option maxRecDepth 20000 in
theorem ggX2_setTone_X2_checkVoice : GoodIn wsX2_setTone wsX2_checkVoice := goodIn_ca (goodIn_r _ [23, 24, 25] (by decide +kernel) (by decide +kernel)) (goodIn_sub (fun _ h => List.mem_cons_of_mem _ (List.mem_append_right _ h)) (by decide +kernel))
set_option maxRecDepth 20000 in
theorem gX2_setTone_X2_checkVoice : GoodIn wsX2_setTone (va_wsS RX2 27 yX2_checkVoice wsX2_checkVoice) := goodIn_app (goodIn_of _ (by decide +kernel)) ggX2_setTone_X2_checkVoice
set_option maxRecDepth 20000 in
theorem ggX2_setTone_X2_checkTone : GoodIn wsX2_setTone wsX2_checkTone := goodIn_ca (goodIn_r _ [28, 24, 25] (by decide +kernel) (by decide +kernel)) (goodIn_sub (fun _ h => List.mem_cons_of_mem _ (List.mem_append_right _ h)) (by decide +kernel))
set_option maxRecDepth 20000 in
theorem gX2_setTone_X2_checkTone : GoodIn wsX2_setTone (va_wsS RX2 31 yX2_checkTone wsX2_checkTone) := goodIn_app (goodIn_of _ (by decide +kernel)) ggX2_setTone_X2_checkTone
set_option maxRecDepth 20000 in
theorem ggX2_setTone_X0_ceiling : GoodIn wsX2_setTone wsX0_ceiling := goodIn_r _ [32, 33, 34, 35, 18, 36, 37, 71, 72, 73, 74, 75] (by decide +kernel) (by decide +kernel)
set_option maxRecDepth 20000 in
theorem gX2_setTone_X0_ceiling : GoodIn wsX2_setTone (wsV RX2 110 RX0 yX0_ceiling wsX0_ceiling) := goodIn_app (goodIn_of _ (by decide +kernel)) ggX2_setTone_X0_ceiling
set_option maxRecDepth 20000 in
theorem ggX2_setTone_X0_floor : GoodIn wsX2_setTone wsX0_floor := goodIn_r _ [41, 33, 34, 35, 18, 36, 37, 71, 72, 73, 74, 75] (by decide +kernel) (by decide +kernel)
set_option maxRecDepth 20000 in
theorem gX2_setTone_X0_floor : GoodIn wsX2_setTone (wsV RX2 113 RX0 yX0_floor wsX0_floor) := goodIn_app (goodIn_of _ (by decide +kernel)) ggX2_setTone_X0_floor
set_option maxRecDepth 20000 in
theorem ggX2_setTone_X0_toneAt : GoodIn wsX2_setTone wsX0_toneAt := goodIn_r _ [36, 37, 71, 72, 73, 74, 75] (by decide +kernel) (by decide +kernel)
set_option maxRecDepth 20000 in
theorem gX2_setTone_X0_toneAt : GoodIn wsX2_setTone (wsV RX2 118 RX0 yX0_toneAt wsX0_toneAt) := goodIn_app (goodIn_of _ (by decide +kernel)) ggX2_setTone_X0_toneAt
set_option maxRecDepth 20000 in
theorem ggX2_setTone_X0_putTone : GoodIn wsX2_setTone wsX0_putTone := goodIn_r _ [46, 37, 47, 48, 49, 18, 50, 20, 51, 52, 53, 54, 55, 56, 57, 58, 59, 33, 34, 35, 36, 60, 61, 62, 63, 64, 65, 66, 71, 72, 73, 74, 75] (by decide +kernel) (by decide +kernel)
set_option maxRecDepth 20000 in
theorem gX2_setTone_X0_putTone : GoodIn wsX2_setTone (wsV RX2 121 RX0 yX0_putTone wsX0_putTone) := goodIn_app (goodIn_of _ (by decide +kernel)) ggX2_setTone_X0_putTone
set_option maxRecDepth 20000 in
theorem ggX2_faultsAt_X2_pieceAt : GoodIn wsX2_faultsAt wsX2_pieceAt := goodIn_ca (goodIn_r _ [5, 6, 7, 8, 9, 24, 25, 26, 27] (by decide +kernel) (by decide +kernel)) (goodIn_sub (fun _ h => List.mem_cons_of_mem _ (List.mem_append_right _ h)) (by decide +kernel))
set_option maxRecDepth 20000 in
theorem gX2_faultsAt_X2_pieceAt : GoodIn wsX2_faultsAt (wsV RX2 102 RX2 yX2_pieceAt wsX2_pieceAt) := goodIn_app (goodIn_of _ (by decide +kernel)) ggX2_faultsAt_X2_pieceAt
set_option maxRecDepth 20000 in
theorem ggX2_faultsAt_X2_checkChord : GoodIn wsX2_faultsAt wsX2_checkChord := goodIn_ca (goodIn_r _ [12, 6, 7, 13, 14, 15, 16, 17, 18, 28, 29, 30, 31, 32] (by decide +kernel) (by decide +kernel)) (goodIn_sub (fun _ h => List.mem_cons_of_mem _ (List.mem_append_right _ h)) (by decide +kernel))
set_option maxRecDepth 20000 in
theorem gX2_faultsAt_X2_checkChord : GoodIn wsX2_faultsAt (va_wsS RX2 106 yX2_checkChord wsX2_checkChord) := goodIn_app (goodIn_of _ (by decide +kernel)) ggX2_faultsAt_X2_checkChord
set_option maxRecDepth 20000 in
theorem ggX2_faultsAt_X0_faultsInto : GoodIn wsX2_faultsAt wsX0_faultsInto := goodIn_r _ [22, 23, 28, 29, 30, 31, 32] (by decide +kernel) (by decide +kernel)
set_option maxRecDepth 20000 in
theorem gX2_faultsAt_X0_faultsInto : GoodIn wsX2_faultsAt (wsV RX2 125 RX0 yX0_faultsInto wsX0_faultsInto) := goodIn_app (goodIn_of _ (by decide +kernel)) ggX2_faultsAt_X0_faultsInto
set_option maxRecDepth 20000 in
theorem ggX2_faults_X2_pieceAt : GoodIn wsX2_faults wsX2_pieceAt := goodIn_ca (goodIn_r _ [5, 6, 7, 8, 9, 17, 18, 19, 20] (by decide +kernel) (by decide +kernel)) (goodIn_sub (fun _ h => List.mem_cons_of_mem _ (List.mem_append_right _ h)) (by decide +kernel))
set_option maxRecDepth 20000 in
theorem gX2_faults_X2_pieceAt : GoodIn wsX2_faults (wsV RX2 102 RX2 yX2_pieceAt wsX2_pieceAt) := goodIn_app (goodIn_of _ (by decide +kernel)) ggX2_faults_X2_pieceAt
set_option maxRecDepth 20000 in
theorem ggX2_faults_X0_faultSum : GoodIn wsX2_faults wsX0_faultSum := goodIn_r _ [14, 15, 16, 21, 22, 23, 24, 25] (by decide +kernel) (by decide +kernel)
set_option maxRecDepth 20000 in
theorem gX2_faults_X0_faultSum : GoodIn wsX2_faults (wsV RX2 129 RX0 yX0_faultSum wsX0_faultSum) := goodIn_app (goodIn_of _ (by decide +kernel)) ggX2_faults_X0_faultSum
set_option maxRecDepth 20000 in
theorem ggX2_leastFaults_X2_pieceAt : GoodIn wsX2_leastFaults wsX2_pieceAt := goodIn_ca (goodIn_r _ [7, 1, 2, 8, 9, 76, 77, 78, 79] (by decide +kernel) (by decide +kernel)) (goodIn_sub (fun _ h => List.mem_cons_of_mem _ (List.mem_append_left _ (List.mem_append_right _ h))) (by decide +kernel))
end
section
set_option maxRecDepth 20000 in
theorem gX2_leastFaults_X2_pieceAt : GoodIn wsX2_leastFaults (wsV RX2 102 RX2 yX2_pieceAt wsX2_pieceAt) := goodIn_app (goodIn_of _ (by decide +kernel)) ggX2_leastFaults_X2_pieceAt
set_option maxRecDepth 20000 in
theorem ggX2_leastFaults_X2_checkChord : GoodIn wsX2_leastFaults wsX2_checkChord := goodIn_ca (goodIn_r _ [12, 1, 2, 13, 14, 15, 16, 17, 18, 80, 81, 82, 83, 84] (by decide +kernel) (by decide +kernel)) (goodIn_sub (fun _ h => List.mem_cons_of_mem _ (List.mem_append_left _ (List.mem_append_right _ h))) (by decide +kernel))
set_option maxRecDepth 20000 in
theorem gX2_leastFaults_X2_checkChord : GoodIn wsX2_leastFaults (va_wsS RX2 106 yX2_checkChord wsX2_checkChord) := goodIn_app (goodIn_of _ (by decide +kernel)) ggX2_leastFaults_X2_checkChord
set_option maxRecDepth 20000 in
theorem ggX2_leastFaults_X0_isLast : GoodIn wsX2_leastFaults wsX0_isLast := goodIn_r _ [22, 18, 80, 81, 82, 83, 84] (by decide +kernel) (by decide +kernel)
set_option maxRecDepth 20000 in
theorem gX2_leastFaults_X0_isLast : GoodIn wsX2_leastFaults (wsV RX2 133 RX0 yX0_isLast wsX0_isLast) := goodIn_app (goodIn_of _ (by decide +kernel)) ggX2_leastFaults_X0_isLast
set_option maxRecDepth 20000 in
theorem ggX2_leastFaults_X2_checkVoice : GoodIn wsX2_leastFaults wsX2_checkVoice := goodIn_ca (goodIn_r _ [25, 26, 27] (by decide +kernel) (by decide +kernel)) (goodIn_sub (fun _ h => List.mem_cons_of_mem _ (List.mem_append_right _ h)) (by decide +kernel))
set_option maxRecDepth 20000 in
theorem gX2_leastFaults_X2_checkVoice : GoodIn wsX2_leastFaults (va_wsS RX2 27 yX2_checkVoice wsX2_checkVoice) := goodIn_app (goodIn_of _ (by decide +kernel)) ggX2_leastFaults_X2_checkVoice
set_option maxRecDepth 20000 in
theorem ggX2_leastFaults_X0_leastFaultSum : GoodIn wsX2_leastFaults wsX0_leastFaultSum := goodIn_r _ [31, 32, 33, 34, 35, 36, 37, 38, 16, 39, 40, 41, 42, 43, 44, 45, 46, 47, 48, 18, 49, 50, 51, 52, 53, 54, 55, 56, 57, 58, 59, 60, 61, 62, 63, 64, 65, 66, 67, 68, 69, 70, 71, 72, 73, 74, 75, 80, 81, 82, 83, 84] (by decide +kernel) (by decide +kernel)
set_option maxRecDepth 20000 in
theorem gX2_leastFaults_X0_leastFaultSum : GoodIn wsX2_leastFaults (wsV RX2 142 RX0 yX0_leastFaultSum wsX0_leastFaultSum) := goodIn_app (goodIn_of _ (by decide +kernel)) ggX2_leastFaults_X0_leastFaultSum
set_option maxRecDepth 20000 in
theorem ggX2_shift_X2_pieceAt : GoodIn wsX2_shift wsX2_pieceAt := goodIn_ca (goodIn_r _ [7, 8, 9, 10, 11, 70, 71, 72, 73] (by decide +kernel) (by decide +kernel)) (goodIn_sub (fun _ h => List.mem_cons_of_mem _ (List.mem_append_left _ (List.mem_append_right _ h))) (by decide +kernel))
set_option maxRecDepth 20000 in
theorem gX2_shift_X2_pieceAt : GoodIn wsX2_shift (wsV RX2 102 RX2 yX2_pieceAt wsX2_pieceAt) := goodIn_app (goodIn_of _ (by decide +kernel)) ggX2_shift_X2_pieceAt
set_option maxRecDepth 20000 in
theorem ggX2_shift_X2_checkDate : GoodIn wsX2_shift wsX2_checkDate := goodIn_ca (goodIn_r _ [14, 15, 16] (by decide +kernel) (by decide +kernel)) (goodIn_sub (fun _ h => List.mem_cons_of_mem _ (List.mem_append_right _ h)) (by decide +kernel))
set_option maxRecDepth 20000 in
theorem gX2_shift_X2_checkDate : GoodIn wsX2_shift (va_wsS RX2 58 yX2_checkDate wsX2_checkDate) := goodIn_app (goodIn_of _ (by decide +kernel)) ggX2_shift_X2_checkDate
set_option maxRecDepth 20000 in
theorem ggX2_shift_X2_nearestShift : GoodIn wsX2_shift wsX2_nearestShift := goodIn_r _ [20, 21, 22, 23, 24, 25, 26, 27, 28, 29, 30, 31, 32, 33, 34, 35, 36, 37, 38, 39, 40, 41, 42, 43, 44, 45, 46, 47, 48, 49, 50, 51, 52, 53, 54, 55, 56, 57, 58, 59, 60, 61, 62, 63, 64, 65, 66, 67, 68, 69, 70, 71, 72, 73, 74, 75, 76, 77, 78, 79, 80, 81, 82, 83] (by decide +kernel) (by decide +kernel)
set_option maxRecDepth 20000 in
theorem gX2_shift_X2_nearestShift : GoodIn wsX2_shift (wsV RX2 145 RX2 yX2_nearestShift wsX2_nearestShift) := goodIn_app (goodIn_of _ (by decide +kernel)) ggX2_shift_X2_nearestShift
set_option maxRecDepth 20000 in
theorem ggX2_dates_X2_pieceAt : GoodIn wsX2_dates wsX2_pieceAt := goodIn_ca (goodIn_r _ [5, 6, 7, 8, 9, 63, 64, 65, 66] (by decide +kernel) (by decide +kernel)) (goodIn_sub (fun _ h => List.mem_cons_of_mem _ (List.mem_append_right _ h)) (by decide +kernel))
set_option maxRecDepth 20000 in
theorem gX2_dates_X2_pieceAt : GoodIn wsX2_dates (wsV RX2 102 RX2 yX2_pieceAt wsX2_pieceAt) := goodIn_app (goodIn_of _ (by decide +kernel)) ggX2_dates_X2_pieceAt
set_option maxRecDepth 20000 in
theorem ggX2_dates_X2_nearestShift : GoodIn wsX2_dates wsX2_nearestShift := goodIn_r _ [13, 14, 15, 16, 17, 18, 19, 20, 21, 22, 23, 24, 25, 26, 27, 28, 29, 30, 31, 32, 33, 34, 35, 36, 37, 38, 39, 40, 41, 42, 43, 44, 45, 46, 47, 48, 49, 50, 51, 52, 53, 54, 55, 56, 57, 58, 59, 60, 61, 62, 63, 64, 65, 66, 67, 68, 69, 70, 71, 72, 73, 74, 75, 76] (by decide +kernel) (by decide +kernel)
set_option maxRecDepth 20000 in
theorem gX2_dates_X2_nearestShift : GoodIn wsX2_dates (wsV RX2 145 RX2 yX2_nearestShift wsX2_nearestShift) := goodIn_app (goodIn_of _ (by decide +kernel)) ggX2_dates_X2_nearestShift
set_option maxRecDepth 20000 in
theorem ggX2_missed_X2_checkDate : GoodIn wsX2_missed wsX2_checkDate := goodIn_ca (goodIn_r _ [5, 6, 7] (by decide +kernel) (by decide +kernel)) (goodIn_sub (fun _ h => List.mem_cons_of_mem _ (List.mem_append_right _ h)) (by decide +kernel))
set_option maxRecDepth 20000 in
theorem gX2_missed_X2_checkDate : GoodIn wsX2_missed (va_wsS RX2 58 yX2_checkDate wsX2_checkDate) := goodIn_app (goodIn_of _ (by decide +kernel)) ggX2_missed_X2_checkDate
set_option maxRecDepth 20000 in
theorem ggX2_missed_X1_countMissed : GoodIn wsX2_missed wsX1_countMissed := goodIn_r _ [12, 13, 14, 15, 16, 17, 11, 18, 19, 20, 21, 22, 23, 24, 25, 26, 27, 28, 29, 30, 31, 32, 37, 38, 39, 40, 41] (by decide +kernel) (by decide +kernel)
set_option maxRecDepth 20000 in
theorem gX2_missed_X1_countMissed : GoodIn wsX2_missed (wsV RX2 151 RX1 yX1_countMissed wsX1_countMissed) := goodIn_app (goodIn_of _ (by decide +kernel)) ggX2_missed_X1_countMissed
set_option maxRecDepth 20000 in
theorem ggX2_programme_X2_checkDate : GoodIn wsX2_programme wsX2_checkDate := goodIn_ca (goodIn_r _ [4, 5, 6] (by decide +kernel) (by decide +kernel)) (goodIn_sub (fun _ h => List.mem_cons_of_mem _ (List.mem_append_left _ (List.mem_append_right _ h))) (by decide +kernel))
set_option maxRecDepth 20000 in
theorem gX2_programme_X2_checkDate : GoodIn wsX2_programme (va_wsS RX2 58 yX2_checkDate wsX2_checkDate) := goodIn_app (goodIn_of _ (by decide +kernel)) ggX2_programme_X2_checkDate
set_option maxRecDepth 20000 in
theorem ggX2_programme_X2_checkTime : GoodIn wsX2_programme wsX2_checkTime := goodIn_ca (goodIn_r _ [9, 5, 6] (by decide +kernel) (by decide +kernel)) (goodIn_sub (fun _ h => List.mem_cons_of_mem _ (List.mem_append_left _ (List.mem_append_right _ h))) (by decide +kernel))
set_option maxRecDepth 20000 in
theorem gX2_programme_X2_checkTime : GoodIn wsX2_programme (va_wsS RX2 154 yX2_checkTime wsX2_checkTime) := goodIn_app (goodIn_of _ (by decide +kernel)) ggX2_programme_X2_checkTime
set_option maxRecDepth 20000 in
theorem ggX2_programme_X2_bestSet : GoodIn wsX2_programme wsX2_bestSet := goodIn_ca (goodIn_r _ [13, 14, 15, 16, 17, 3, 18, 19, 20, 21, 22, 23, 24, 25, 26, 27, 28, 29, 30, 31, 32, 33, 34, 35, 36, 37, 38, 39, 40, 41, 42, 43, 44, 45, 46, 47, 48, 49, 50, 51, 52, 53, 54, 55, 56, 57, 58, 59, 60, 61, 62, 63, 64, 65, 66, 67, 68, 69, 70, 71, 72, 73, 74, 75, 76, 77, 78, 79, 80, 81, 82, 83, 84, 85, 86, 87, 88, 89, 90, 91, 92, 93, 94, 95, 96, 97, 98, 99, 100, 101, 102, 103, 104, 105, 106, 107, 108, 109, 110, 111, 112] (by decide +kernel) (by decide +kernel)) (goodIn_sub (fun _ h => List.mem_cons_of_mem _ (List.mem_append_right _ h)) (by decide +kernel))
set_option maxRecDepth 20000 in
theorem gX2_programme_X2_bestSet : GoodIn wsX2_programme (wsV RX2 157 RX2 yX2_bestSet wsX2_bestSet) := goodIn_app (goodIn_of _ (by decide +kernel)) ggX2_programme_X2_bestSet
set_option maxRecDepth 20000 in
theorem ggX2_duration_X2_checkDate : GoodIn wsX2_duration wsX2_checkDate := goodIn_ca (goodIn_r _ [4, 5, 6] (by decide +kernel) (by decide +kernel)) (goodIn_sub (fun _ h => List.mem_cons_of_mem _ (List.mem_append_left _ (List.mem_append_right _ h))) (by decide +kernel))
set_option maxRecDepth 20000 in
theorem gX2_duration_X2_checkDate : GoodIn wsX2_duration (va_wsS RX2 58 yX2_checkDate wsX2_checkDate) := goodIn_app (goodIn_of _ (by decide +kernel)) ggX2_duration_X2_checkDate
set_option maxRecDepth 20000 in
theorem ggX2_duration_X2_checkTime : GoodIn wsX2_duration wsX2_checkTime := goodIn_ca (goodIn_r _ [9, 5, 6] (by decide +kernel) (by decide +kernel)) (goodIn_sub (fun _ h => List.mem_cons_of_mem _ (List.mem_append_left _ (List.mem_append_right _ h))) (by decide +kernel))
set_option maxRecDepth 20000 in
theorem gX2_duration_X2_checkTime : GoodIn wsX2_duration (va_wsS RX2 154 yX2_checkTime wsX2_checkTime) := goodIn_app (goodIn_of _ (by decide +kernel)) ggX2_duration_X2_checkTime
set_option maxRecDepth 20000 in
theorem ggX2_duration_X2_bestSet : GoodIn wsX2_duration wsX2_bestSet := goodIn_ca (goodIn_r _ [13, 14, 15, 16, 17, 3, 18, 19, 20, 21, 22, 23, 24, 25, 26, 27, 28, 29, 30, 31, 32, 33, 34, 35, 36, 37, 38, 39, 40, 41, 42, 43, 44, 45, 46, 47, 48, 49, 50, 51, 52, 53, 54, 55, 56, 57, 58, 59, 60, 61, 62, 63, 64, 65, 66, 67, 68, 69, 70, 71, 72, 73, 74, 75, 76, 77, 78, 79, 80, 81, 82, 83, 84, 85, 86, 87, 88, 89, 90, 91, 92, 93, 94, 95, 96, 97, 98, 99, 100, 101, 102, 103, 104, 105, 106, 107, 108, 109, 110, 111, 112] (by decide +kernel) (by decide +kernel)) (goodIn_sub (fun _ h => List.mem_cons_of_mem _ (List.mem_append_right _ h)) (by decide +kernel))
set_option maxRecDepth 20000 in
theorem gX2_duration_X2_bestSet : GoodIn wsX2_duration (wsV RX2 157 RX2 yX2_bestSet wsX2_bestSet) := goodIn_app (goodIn_of _ (by decide +kernel)) ggX2_duration_X2_bestSet
set_option maxRecDepth 20000 in
theorem ggX2_duration_X2_lengthOf : GoodIn wsX2_duration wsX2_lengthOf := goodIn_ca (goodIn_r _ [82, 14, 19, 20, 21, 3, 22, 23, 24, 25, 83, 84, 85, 59, 86, 87, 99, 100, 101, 102, 108, 109, 110, 111, 112] (by decide +kernel) (by decide +kernel)) (goodIn_sub (fun _ h => List.mem_cons_of_mem _ (List.mem_append_right _ h)) (by decide +kernel))
set_option maxRecDepth 20000 in
theorem gX2_duration_X2_lengthOf : GoodIn wsX2_duration (wsV RX2 160 RX2 yX2_lengthOf wsX2_lengthOf) := goodIn_app (goodIn_of _ (by decide +kernel)) ggX2_duration_X2_lengthOf
set_option maxRecDepth 20000 in
theorem ggX2_rehearse_X2_pieceAt : GoodIn wsX2_rehearse wsX2_pieceAt := goodIn_ca (goodIn_r _ [7, 8, 9, 10, 11, 36, 37, 38, 39] (by decide +kernel) (by decide +kernel)) (goodIn_sub (fun _ h => List.mem_cons_of_mem _ (List.mem_append_right _ h)) (by decide +kernel))
set_option maxRecDepth 20000 in
theorem gX2_rehearse_X2_pieceAt : GoodIn wsX2_rehearse (wsV RX2 102 RX2 yX2_pieceAt wsX2_pieceAt) := goodIn_app (goodIn_of _ (by decide +kernel)) ggX2_rehearse_X2_pieceAt
set_option maxRecDepth 20000 in
theorem ggX2_rehearse_X0_practiseWeakest : GoodIn wsX2_rehearse wsX0_practiseWeakest := goodIn_r _ [16, 17, 18, 19, 20, 15, 21, 22, 23, 24, 25, 26, 27, 28, 29, 30, 31, 40, 41, 42, 43, 44] (by decide +kernel) (by decide +kernel)
set_option maxRecDepth 20000 in
theorem gX2_rehearse_X0_practiseWeakest : GoodIn wsX2_rehearse (wsV RX2 165 RX0 yX0_practiseWeakest wsX0_practiseWeakest) := goodIn_app (goodIn_of _ (by decide +kernel)) ggX2_rehearse_X0_practiseWeakest
set_option maxRecDepth 20000 in
theorem ggX2_rehearse_X0_weaknessSum : GoodIn wsX2_rehearse wsX0_weaknessSum := goodIn_r _ [35, 22, 23, 24, 25, 15, 26, 27, 17, 28, 29, 30, 31, 40, 41, 42, 43, 44] (by decide +kernel) (by decide +kernel)
set_option maxRecDepth 20000 in
theorem gX2_rehearse_X0_weaknessSum : GoodIn wsX2_rehearse (wsV RX2 168 RX0 yX0_weaknessSum wsX0_weaknessSum) := goodIn_app (goodIn_of _ (by decide +kernel)) ggX2_rehearse_X0_weaknessSum
set_option maxRecDepth 20000 in
theorem ggX2_weakness_X2_pieceAt : GoodIn wsX2_weakness wsX2_pieceAt := goodIn_ca (goodIn_r _ [5, 6, 7, 8, 9, 29, 30, 31, 32] (by decide +kernel) (by decide +kernel)) (goodIn_sub (fun _ h => List.mem_cons_of_mem _ (List.mem_append_right _ h)) (by decide +kernel))
set_option maxRecDepth 20000 in
theorem gX2_weakness_X2_pieceAt : GoodIn wsX2_weakness (wsV RX2 102 RX2 yX2_pieceAt wsX2_pieceAt) := goodIn_app (goodIn_of _ (by decide +kernel)) ggX2_weakness_X2_pieceAt
set_option maxRecDepth 20000 in
theorem ggX2_weakness_X2_checkChord : GoodIn wsX2_weakness wsX2_checkChord := goodIn_ca (goodIn_r _ [12, 6, 7, 13, 14, 15, 16, 17, 18, 33, 34, 35, 36, 37] (by decide +kernel) (by decide +kernel)) (goodIn_sub (fun _ h => List.mem_cons_of_mem _ (List.mem_append_right _ h)) (by decide +kernel))
set_option maxRecDepth 20000 in
theorem gX2_weakness_X2_checkChord : GoodIn wsX2_weakness (va_wsS RX2 106 yX2_checkChord wsX2_checkChord) := goodIn_app (goodIn_of _ (by decide +kernel)) ggX2_weakness_X2_checkChord
set_option maxRecDepth 20000 in
theorem ggX2_weakness_X0_weaknessOf : GoodIn wsX2_weakness wsX0_weaknessOf := goodIn_r _ [22, 23, 24, 25, 26, 27, 28, 33, 34, 35, 36, 37] (by decide +kernel) (by decide +kernel)
set_option maxRecDepth 20000 in
theorem gX2_weakness_X0_weaknessOf : GoodIn wsX2_weakness (wsV RX2 171 RX0 yX0_weaknessOf wsX0_weaknessOf) := goodIn_app (goodIn_of _ (by decide +kernel)) ggX2_weakness_X0_weaknessOf
set_option maxRecDepth 20000 in
theorem ggX2_weakest_X2_pieceAt : GoodIn wsX2_weakest wsX2_pieceAt := goodIn_ca (goodIn_r _ [5, 6, 7, 8, 9, 26, 27, 28, 29] (by decide +kernel) (by decide +kernel)) (goodIn_sub (fun _ h => List.mem_cons_of_mem _ (List.mem_append_right _ h)) (by decide +kernel))
set_option maxRecDepth 20000 in
theorem gX2_weakest_X2_pieceAt : GoodIn wsX2_weakest (wsV RX2 102 RX2 yX2_pieceAt wsX2_pieceAt) := goodIn_app (goodIn_of _ (by decide +kernel)) ggX2_weakest_X2_pieceAt
set_option maxRecDepth 20000 in
theorem ggX2_weakest_X0_weakestChord : GoodIn wsX2_weakest wsX0_weakestChord := goodIn_r _ [14, 15, 16, 17, 18, 13, 19, 20, 21, 22, 23, 24, 25, 30, 31, 32, 33, 34] (by decide +kernel) (by decide +kernel)
set_option maxRecDepth 20000 in
theorem gX2_weakest_X0_weakestChord : GoodIn wsX2_weakest (wsV RX2 174 RX0 yX0_weakestChord wsX0_weakestChord) := goodIn_app (goodIn_of _ (by decide +kernel)) ggX2_weakest_X0_weakestChord
set_option maxRecDepth 20000 in
theorem ggX2_checkSinger_X1_has : GoodIn wsX2_checkSinger wsX1_has := goodIn_r _ [8, 9, 14, 15, 16, 17, 18] (by decide +kernel) (by decide +kernel)
set_option maxRecDepth 20000 in
theorem gX2_checkSinger_X1_has : GoodIn wsX2_checkSinger (wsV RX2 185 RX1 yX1_has wsX1_has) := goodIn_app (goodIn_of _ (by decide +kernel)) ggX2_checkSinger_X1_has
set_option maxRecDepth 20000 in
theorem ggX2_checkChord_X0_has : GoodIn wsX2_checkChord wsX0_has := goodIn_r _ [7, 8, 9, 10, 11, 12, 13] (by decide +kernel) (by decide +kernel)
set_option maxRecDepth 20000 in
theorem gX2_checkChord_X0_has : GoodIn wsX2_checkChord (wsV RX2 190 RX0 yX0_has wsX0_has) := goodIn_app (goodIn_of _ (by decide +kernel)) ggX2_checkChord_X0_has
set_option maxRecDepth 20000 in
theorem ggX2_nearestShift_X1_firstTone : GoodIn wsX2_nearestShift wsX1_firstTone := goodIn_r _ [13, 14, 15, 16, 3, 4, 5, 17, 18, 19, 12, 20, 21, 22, 23, 24, 25, 26, 54, 55, 56, 57, 58] (by decide +kernel) (by decide +kernel)
set_option maxRecDepth 20000 in
theorem gX2_nearestShift_X1_firstTone : GoodIn wsX2_nearestShift (wsV RX2 73 RX1 yX1_firstTone wsX1_firstTone) := goodIn_app (goodIn_of _ (by decide +kernel)) ggX2_nearestShift_X1_firstTone
set_option maxRecDepth 20000 in
theorem ggX2_nearestShift_X0_lowestTone : GoodIn wsX2_nearestShift wsX0_lowestTone := goodIn_r _ [31, 32, 33, 7, 4, 8, 34, 35, 36, 30, 37, 38, 59, 60, 61, 62, 63] (by decide +kernel) (by decide +kernel)
set_option maxRecDepth 20000 in
theorem gX2_nearestShift_X0_lowestTone : GoodIn wsX2_nearestShift (wsV RX2 195 RX0 yX0_lowestTone wsX0_lowestTone) := goodIn_app (goodIn_of _ (by decide +kernel)) ggX2_nearestShift_X0_lowestTone
set_option maxRecDepth 20000 in
theorem ggX2_nearestShift_X1_lastTone : GoodIn wsX2_nearestShift wsX1_lastTone := goodIn_r _ [42, 14, 43, 44, 7, 4, 8, 17, 18, 19, 12, 20, 21, 22, 23, 24, 25, 26, 54, 55, 56, 57, 58] (by decide +kernel) (by decide +kernel)
set_option maxRecDepth 20000 in
theorem gX2_nearestShift_X1_lastTone : GoodIn wsX2_nearestShift (wsV RX2 76 RX1 yX1_lastTone wsX1_lastTone) := goodIn_app (goodIn_of _ (by decide +kernel)) ggX2_nearestShift_X1_lastTone
set_option maxRecDepth 20000 in
theorem ggX2_nearestShift_X0_highestTone : GoodIn wsX2_nearestShift wsX0_highestTone := goodIn_r _ [48, 32, 49, 3, 4, 5, 34, 35, 36, 30, 37, 38, 59, 60, 61, 62, 63] (by decide +kernel) (by decide +kernel)
set_option maxRecDepth 20000 in
theorem gX2_nearestShift_X0_highestTone : GoodIn wsX2_nearestShift (wsV RX2 203 RX0 yX0_highestTone wsX0_highestTone) := goodIn_app (goodIn_of _ (by decide +kernel)) ggX2_nearestShift_X0_highestTone
set_option maxRecDepth 20000 in
theorem ggX2_bestSet_X2_singableSet : GoodIn wsX2_bestSet wsX2_singableSet := goodIn_ca (goodIn_r _ [6, 1, 7, 8, 9, 5, 10, 11, 12, 13, 14, 15, 16, 17, 18, 19, 20, 21, 22, 23, 24, 25, 26, 27, 28, 29, 30, 31, 32, 33, 34, 35, 36, 37, 38, 39, 40, 41, 42, 43, 44, 45, 46, 47, 48, 49, 50, 51, 52, 53, 54, 55, 56, 57, 58, 59, 60, 61, 62, 63, 64, 65, 66, 87, 88, 89, 90, 91, 92, 93, 94, 95, 96, 97, 98, 99, 100] (by decide +kernel) (by decide +kernel)) (goodIn_sub (fun _ h => List.mem_cons_of_mem _ (List.mem_append_right _ h)) (by decide +kernel))
set_option maxRecDepth 20000 in
theorem gX2_bestSet_X2_singableSet : GoodIn wsX2_bestSet (wsV RX2 209 RX2 yX2_singableSet wsX2_singableSet) := goodIn_app (goodIn_of _ (by decide +kernel)) ggX2_bestSet_X2_singableSet
set_option maxRecDepth 20000 in
theorem ggX2_bestSet_X2_lengthOf : GoodIn wsX2_bestSet wsX2_lengthOf := goodIn_ca (goodIn_r _ [70, 1, 7, 8, 9, 5, 10, 11, 12, 13, 71, 72, 73, 47, 74, 75, 87, 88, 89, 90, 96, 97, 98, 99, 100] (by decide +kernel) (by decide +kernel)) (goodIn_sub (fun _ h => List.mem_cons_of_mem _ (List.mem_append_right _ h)) (by decide +kernel))
set_option maxRecDepth 20000 in
theorem gX2_bestSet_X2_lengthOf : GoodIn wsX2_bestSet (wsV RX2 160 RX2 yX2_lengthOf wsX2_lengthOf) := goodIn_app (goodIn_of _ (by decide +kernel)) ggX2_bestSet_X2_lengthOf
set_option maxRecDepth 20000 in
theorem ggX2_bestSet_X2_isBetter : GoodIn wsX2_bestSet wsX2_isBetter := goodIn_ca (goodIn_r _ [79, 67, 68, 69, 5, 70, 1, 7, 8, 9, 10, 11, 12, 13, 71, 72, 73, 47, 74, 75, 80, 81, 82, 83, 84, 85, 86, 87, 88, 89, 90, 96, 97, 98, 99, 100] (by decide +kernel) (by decide +kernel)) (goodIn_sub (fun _ h => List.mem_cons_of_mem _ (List.mem_append_right _ h)) (by decide +kernel))
set_option maxRecDepth 20000 in
theorem gX2_bestSet_X2_isBetter : GoodIn wsX2_bestSet (wsV RX2 212 RX2 yX2_isBetter wsX2_isBetter) := goodIn_app (goodIn_of _ (by decide +kernel)) ggX2_bestSet_X2_isBetter
set_option maxRecDepth 20000 in
theorem ggX2_singableSet_X2_pieceAt : GoodIn wsX2_singableSet wsX2_pieceAt := goodIn_ca (goodIn_r _ [6, 7, 8, 1, 9, 63, 64, 65, 66] (by decide +kernel) (by decide +kernel)) (goodIn_sub (fun _ h => List.mem_cons_of_mem _ (List.mem_append_right _ h)) (by decide +kernel))
set_option maxRecDepth 20000 in
theorem gX2_singableSet_X2_pieceAt : GoodIn wsX2_singableSet (wsV RX2 102 RX2 yX2_pieceAt wsX2_pieceAt) := goodIn_app (goodIn_of _ (by decide +kernel)) ggX2_singableSet_X2_pieceAt
set_option maxRecDepth 20000 in
theorem ggX2_singableSet_X2_nearestShift : GoodIn wsX2_singableSet wsX2_nearestShift := goodIn_r _ [13, 14, 15, 16, 17, 18, 19, 20, 21, 22, 23, 24, 25, 26, 27, 28, 29, 30, 31, 32, 33, 34, 35, 36, 37, 38, 39, 40, 41, 42, 43, 44, 45, 46, 47, 48, 49, 50, 51, 52, 53, 54, 55, 56, 57, 58, 59, 60, 61, 62, 63, 64, 65, 66, 67, 68, 69, 70, 71, 72, 73, 74, 75, 76] (by decide +kernel) (by decide +kernel)
set_option maxRecDepth 20000 in
theorem gX2_singableSet_X2_nearestShift : GoodIn wsX2_singableSet (wsV RX2 145 RX2 yX2_nearestShift wsX2_nearestShift) := goodIn_app (goodIn_of _ (by decide +kernel)) ggX2_singableSet_X2_nearestShift
set_option maxRecDepth 20000 in
theorem ggX2_lengthOf_X2_pieceAt : GoodIn wsX2_lengthOf wsX2_pieceAt := goodIn_ca (goodIn_r _ [6, 7, 8, 1, 9, 16, 17, 18, 19] (by decide +kernel) (by decide +kernel)) (goodIn_sub (fun _ h => List.mem_cons_of_mem _ (List.mem_append_right _ h)) (by decide +kernel))
set_option maxRecDepth 20000 in
theorem gX2_lengthOf_X2_pieceAt : GoodIn wsX2_lengthOf (wsV RX2 102 RX2 yX2_pieceAt wsX2_pieceAt) := goodIn_app (goodIn_of _ (by decide +kernel)) ggX2_lengthOf_X2_pieceAt
set_option maxRecDepth 20000 in
theorem ggX2_lengthOf_X0_length : GoodIn wsX2_lengthOf wsX0_length := goodIn_r _ [14, 15, 20, 21, 22, 23, 24] (by decide +kernel) (by decide +kernel)
set_option maxRecDepth 20000 in
theorem gX2_lengthOf_X0_length : GoodIn wsX2_lengthOf (wsV RX2 215 RX0 yX0_length wsX0_length) := goodIn_app (goodIn_of _ (by decide +kernel)) ggX2_lengthOf_X0_length
set_option maxRecDepth 20000 in
theorem ggX2_isBetter_X2_lengthOf : GoodIn wsX2_isBetter wsX2_lengthOf := goodIn_ca (goodIn_r _ [5, 6, 7, 8, 9, 4, 10, 11, 12, 13, 14, 15, 16, 17, 18, 19, 27, 28, 29, 30, 31, 32, 33, 34, 35] (by decide +kernel) (by decide +kernel)) (goodIn_sub (fun _ h => List.mem_cons_of_mem _ (List.mem_append_right _ h)) (by decide +kernel))
set_option maxRecDepth 20000 in
theorem gX2_isBetter_X2_lengthOf : GoodIn wsX2_isBetter (wsV RX2 160 RX2 yX2_lengthOf wsX2_lengthOf) := goodIn_app (goodIn_of _ (by decide +kernel)) ggX2_isBetter_X2_lengthOf
set_option maxRecDepth 20000 in
theorem ggX2_isBetter_J6_bitCount_0f7a4 : GoodIn wsX2_isBetter wsJ6_bitCount_0f7a4 := goodIn_r _ [23, 24, 25, 26] (by decide +kernel) (by decide +kernel)
set_option maxRecDepth 20000 in
theorem gX2_isBetter_J6_bitCount_0f7a4 : GoodIn wsX2_isBetter (va_wsS RX2 218 yJ6_bitCount_0f7a4 wsJ6_bitCount_0f7a4) := goodIn_app (goodIn_of _ (by decide +kernel)) ggX2_isBetter_J6_bitCount_0f7a4
set_option maxRecDepth 20000 in
theorem ggX3_isVoice_X3_in : GoodIn wsX3_isVoice wsX3_in := goodIn_r _ [4] (by decide +kernel) (by decide +kernel)
set_option maxRecDepth 20000 in
theorem gX3_isVoice_X3_in : GoodIn wsX3_isVoice (va_wsS RX3 38 yX3_in wsX3_in) := goodIn_app (goodIn_of _ (by decide +kernel)) ggX3_isVoice_X3_in
set_option maxRecDepth 20000 in
theorem ggX3_isDate_X3_in : GoodIn wsX3_isDate wsX3_in := goodIn_r _ [4] (by decide +kernel) (by decide +kernel)
set_option maxRecDepth 20000 in
theorem gX3_isDate_X3_in : GoodIn wsX3_isDate (va_wsS RX3 38 yX3_in wsX3_in) := goodIn_app (goodIn_of _ (by decide +kernel)) ggX3_isDate_X3_in
set_option maxRecDepth 20000 in
theorem ggX3_isTone_X3_in : GoodIn wsX3_isTone wsX3_in := goodIn_r _ [4] (by decide +kernel) (by decide +kernel)
set_option maxRecDepth 20000 in
theorem gX3_isTone_X3_in : GoodIn wsX3_isTone (va_wsS RX3 38 yX3_in wsX3_in) := goodIn_app (goodIn_of _ (by decide +kernel)) ggX3_isTone_X3_in
set_option maxRecDepth 20000 in
theorem ggX3_isSinger_X3_in : GoodIn wsX3_isSinger wsX3_in := goodIn_r _ [5] (by decide +kernel) (by decide +kernel)
set_option maxRecDepth 20000 in
theorem gX3_isSinger_X3_in : GoodIn wsX3_isSinger (va_wsS RX3 38 yX3_in wsX3_in) := goodIn_app (goodIn_of _ (by decide +kernel)) ggX3_isSinger_X3_in
set_option maxRecDepth 20000 in
theorem ggX3_isPiece_X3_in : GoodIn wsX3_isPiece wsX3_in := goodIn_r _ [5] (by decide +kernel) (by decide +kernel)
set_option maxRecDepth 20000 in
theorem gX3_isPiece_X3_in : GoodIn wsX3_isPiece (va_wsS RX3 38 yX3_in wsX3_in) := goodIn_app (goodIn_of _ (by decide +kernel)) ggX3_isPiece_X3_in
set_option maxRecDepth 20000 in
theorem ggX3_isChord_X3_isPiece : GoodIn wsX3_isChord wsX3_isPiece := goodIn_r _ [6, 7, 8, 9, 5, 10, 11, 12, 13, 14, 15, 16, 17, 18, 19, 20, 21] (by decide +kernel) (by decide +kernel)
set_option maxRecDepth 20000 in
theorem gX3_isChord_X3_isPiece : GoodIn wsX3_isChord (wsV RX3 48 RX3 yX3_isPiece wsX3_isPiece) := goodIn_app (goodIn_of _ (by decide +kernel)) ggX3_isChord_X3_isPiece
set_option maxRecDepth 20000 in
theorem ggX3_isChord_X3_in : GoodIn wsX3_isChord wsX3_in := goodIn_r _ [10] (by decide +kernel) (by decide +kernel)
set_option maxRecDepth 20000 in
theorem gX3_isChord_X3_in : GoodIn wsX3_isChord (va_wsS RX3 38 yX3_in wsX3_in) := goodIn_app (goodIn_of _ (by decide +kernel)) ggX3_isChord_X3_in
set_option maxRecDepth 20000 in
theorem ggX3_addSinger_X3_isVoice : GoodIn wsX3_addSinger wsX3_isVoice := goodIn_r _ [8, 9, 10, 7, 11] (by decide +kernel) (by decide +kernel)
set_option maxRecDepth 20000 in
theorem gX3_addSinger_X3_isVoice : GoodIn wsX3_addSinger (va_wsS RX3 52 yX3_isVoice wsX3_isVoice) := goodIn_app (goodIn_of _ (by decide +kernel)) ggX3_addSinger_X3_isVoice
set_option maxRecDepth 20000 in
theorem ggX3_addSinger_X3_isTone : GoodIn wsX3_addSinger wsX3_isTone := goodIn_r _ [14, 9, 10, 7, 11] (by decide +kernel) (by decide +kernel)
set_option maxRecDepth 20000 in
theorem gX3_addSinger_X3_isTone : GoodIn wsX3_addSinger (va_wsS RX3 55 yX3_isTone wsX3_isTone) := goodIn_app (goodIn_of _ (by decide +kernel)) ggX3_addSinger_X3_isTone
set_option maxRecDepth 20000 in
theorem ggX3_addSinger_X3_in : GoodIn wsX3_addSinger wsX3_in := goodIn_r _ [11] (by decide +kernel) (by decide +kernel)
set_option maxRecDepth 20000 in
theorem gX3_addSinger_X3_in : GoodIn wsX3_addSinger (va_wsS RX3 38 yX3_in wsX3_in) := goodIn_app (goodIn_of _ (by decide +kernel)) ggX3_addSinger_X3_in
set_option maxRecDepth 20000 in
theorem ggX3_addSinger_X3_refused : GoodIn wsX3_addSinger wsX3_refused := goodIn_r _ [18, 19, 20, 21, 22, 23, 24, 25, 26, 27, 28, 29, 30] (by decide +kernel) (by decide +kernel)
set_option maxRecDepth 20000 in
theorem gX3_addSinger_X3_refused : GoodIn wsX3_addSinger (wsV RX3 58 RX3 yX3_refused wsX3_refused) := goodIn_app (goodIn_of _ (by decide +kernel)) ggX3_addSinger_X3_refused
set_option maxRecDepth 20000 in
theorem ggX3_tell_X3_isSinger : GoodIn wsX3_tell wsX3_isSinger := goodIn_r _ [6, 7, 8, 9, 5, 10, 23, 24, 25, 26, 27, 28, 29, 30, 31, 32, 33] (by decide +kernel) (by decide +kernel)
set_option maxRecDepth 20000 in
theorem gX3_tell_X3_isSinger : GoodIn wsX3_tell (wsV RX3 61 RX3 yX3_isSinger wsX3_isSinger) := goodIn_app (goodIn_of _ (by decide +kernel)) ggX3_tell_X3_isSinger
set_option maxRecDepth 20000 in
theorem ggX3_tell_X3_isDate : GoodIn wsX3_tell wsX3_isDate := goodIn_r _ [13, 8, 9, 5, 10] (by decide +kernel) (by decide +kernel)
set_option maxRecDepth 20000 in
theorem gX3_tell_X3_isDate : GoodIn wsX3_tell (va_wsS RX3 64 yX3_isDate wsX3_isDate) := goodIn_app (goodIn_of _ (by decide +kernel)) ggX3_tell_X3_isDate
set_option maxRecDepth 20000 in
theorem ggX3_tell_X3_refused : GoodIn wsX3_tell wsX3_refused := goodIn_r _ [17, 18, 23, 24, 25, 26, 27, 28, 29, 30, 31, 32, 33] (by decide +kernel) (by decide +kernel)
set_option maxRecDepth 20000 in
theorem gX3_tell_X3_refused : GoodIn wsX3_tell (wsV RX3 58 RX3 yX3_refused wsX3_refused) := goodIn_app (goodIn_of _ (by decide +kernel)) ggX3_tell_X3_refused
set_option maxRecDepth 20000 in
theorem ggX3_tell_X3_isThere : GoodIn wsX3_tell wsX3_isThere := goodIn_r _ [22, 1, 23, 24, 25, 26, 27, 28, 29, 30, 31, 32, 33] (by decide +kernel) (by decide +kernel)
set_option maxRecDepth 20000 in
theorem gX3_tell_X3_isThere : GoodIn wsX3_tell (wsV RX3 67 RX3 yX3_isThere wsX3_isThere) := goodIn_app (goodIn_of _ (by decide +kernel)) ggX3_tell_X3_isThere
set_option maxRecDepth 20000 in
theorem ggX3_change_X3_isSinger : GoodIn wsX3_change wsX3_isSinger := goodIn_r _ [6, 7, 8, 9, 5, 10, 19, 20, 21, 22, 23, 24, 25, 26, 27, 28, 29] (by decide +kernel) (by decide +kernel)
set_option maxRecDepth 20000 in
theorem gX3_change_X3_isSinger : GoodIn wsX3_change (wsV RX3 61 RX3 yX3_isSinger wsX3_isSinger) := goodIn_app (goodIn_of _ (by decide +kernel)) ggX3_change_X3_isSinger
set_option maxRecDepth 20000 in
theorem ggX3_change_X3_isVoice : GoodIn wsX3_change wsX3_isVoice := goodIn_r _ [13, 8, 9, 5, 10] (by decide +kernel) (by decide +kernel)
set_option maxRecDepth 20000 in
theorem gX3_change_X3_isVoice : GoodIn wsX3_change (va_wsS RX3 52 yX3_isVoice wsX3_isVoice) := goodIn_app (goodIn_of _ (by decide +kernel)) ggX3_change_X3_isVoice
set_option maxRecDepth 20000 in
theorem ggX3_change_X3_refused : GoodIn wsX3_change wsX3_refused := goodIn_r _ [17, 18, 19, 20, 21, 22, 23, 24, 25, 26, 27, 28, 29] (by decide +kernel) (by decide +kernel)
set_option maxRecDepth 20000 in
theorem gX3_change_X3_refused : GoodIn wsX3_change (wsV RX3 58 RX3 yX3_refused wsX3_refused) := goodIn_app (goodIn_of _ (by decide +kernel)) ggX3_change_X3_refused
set_option maxRecDepth 20000 in
theorem ggX3_firstOf_X3_isThere : GoodIn wsX3_firstOf wsX3_isThere := goodIn_r _ [8, 9, 10, 11, 12, 13, 14, 15, 16, 17, 18, 19, 20] (by decide +kernel) (by decide +kernel)
set_option maxRecDepth 20000 in
theorem gX3_firstOf_X3_isThere : GoodIn wsX3_firstOf (wsV RX3 67 RX3 yX3_isThere wsX3_isThere) := goodIn_app (goodIn_of _ (by decide +kernel)) ggX3_firstOf_X3_isThere
set_option maxRecDepth 20000 in
theorem ggX3_lastOf_X3_isThere : GoodIn wsX3_lastOf wsX3_isThere := goodIn_r _ [8, 9, 10, 11, 12, 13, 14, 15, 16, 17, 18, 19, 20] (by decide +kernel) (by decide +kernel)
set_option maxRecDepth 20000 in
theorem gX3_lastOf_X3_isThere : GoodIn wsX3_lastOf (wsV RX3 67 RX3 yX3_isThere wsX3_isThere) := goodIn_app (goodIn_of _ (by decide +kernel)) ggX3_lastOf_X3_isThere
set_option maxRecDepth 20000 in
theorem ggX3_range_X3_isVoice : GoodIn wsX3_range wsX3_isVoice := goodIn_r _ [4, 5, 6, 3, 7] (by decide +kernel) (by decide +kernel)
set_option maxRecDepth 20000 in
theorem gX3_range_X3_isVoice : GoodIn wsX3_range (va_wsS RX3 52 yX3_isVoice wsX3_isVoice) := goodIn_app (goodIn_of _ (by decide +kernel)) ggX3_range_X3_isVoice
set_option maxRecDepth 20000 in
theorem ggX3_range_X3_isDate : GoodIn wsX3_range wsX3_isDate := goodIn_r _ [10, 5, 6, 3, 7] (by decide +kernel) (by decide +kernel)
set_option maxRecDepth 20000 in
theorem gX3_range_X3_isDate : GoodIn wsX3_range (va_wsS RX3 64 yX3_isDate wsX3_isDate) := goodIn_app (goodIn_of _ (by decide +kernel)) ggX3_range_X3_isDate
set_option maxRecDepth 20000 in
theorem ggX3_range_X3_refused : GoodIn wsX3_range wsX3_refused := goodIn_r _ [14, 15, 33, 34, 35, 36, 37, 38, 39, 40, 41, 42, 43] (by decide +kernel) (by decide +kernel)
set_option maxRecDepth 20000 in
theorem gX3_range_X3_refused : GoodIn wsX3_range (wsV RX3 58 RX3 yX3_refused wsX3_refused) := goodIn_app (goodIn_of _ (by decide +kernel)) ggX3_range_X3_refused
set_option maxRecDepth 20000 in
theorem ggX3_range_X3_firstOf : GoodIn wsX3_range wsX3_firstOf := goodIn_r _ [19, 20, 21, 22, 23, 24, 25, 3, 26, 27, 33, 34, 35, 36, 37, 38, 39, 40, 41, 42, 43] (by decide +kernel) (by decide +kernel)
end
section
set_option maxRecDepth 20000 in
theorem gX3_range_X3_firstOf : GoodIn wsX3_range (wsV RX3 71 RX3 yX3_firstOf wsX3_firstOf) := goodIn_app (goodIn_of _ (by decide +kernel)) ggX3_range_X3_firstOf
set_option maxRecDepth 20000 in
theorem ggX3_range_X3_lastOf : GoodIn wsX3_range wsX3_lastOf := goodIn_r _ [31, 20, 21, 32, 23, 24, 25, 3, 26, 27, 33, 34, 35, 36, 37, 38, 39, 40, 41, 42, 43] (by decide +kernel) (by decide +kernel)
set_option maxRecDepth 20000 in
theorem gX3_range_X3_lastOf : GoodIn wsX3_range (wsV RX3 75 RX3 yX3_lastOf wsX3_lastOf) := goodIn_app (goodIn_of _ (by decide +kernel)) ggX3_range_X3_lastOf
set_option maxRecDepth 20000 in
theorem ggX3_chord_X3_isTone : GoodIn wsX3_chord wsX3_isTone := goodIn_r _ [7, 8, 9, 6, 10] (by decide +kernel) (by decide +kernel)
set_option maxRecDepth 20000 in
theorem gX3_chord_X3_isTone : GoodIn wsX3_chord (va_wsS RX3 55 yX3_isTone wsX3_isTone) := goodIn_app (goodIn_of _ (by decide +kernel)) ggX3_chord_X3_isTone
set_option maxRecDepth 20000 in
theorem ggX3_chord_X3_in : GoodIn wsX3_chord wsX3_in := goodIn_r _ [10] (by decide +kernel) (by decide +kernel)
set_option maxRecDepth 20000 in
theorem gX3_chord_X3_in : GoodIn wsX3_chord (va_wsS RX3 38 yX3_in wsX3_in) := goodIn_app (goodIn_of _ (by decide +kernel)) ggX3_chord_X3_in
set_option maxRecDepth 20000 in
theorem ggX3_chord_X3_refused : GoodIn wsX3_chord wsX3_refused := goodIn_r _ [14, 15, 16, 17, 18, 19, 20, 21, 22, 23, 24, 25, 26] (by decide +kernel) (by decide +kernel)
set_option maxRecDepth 20000 in
theorem gX3_chord_X3_refused : GoodIn wsX3_chord (wsV RX3 58 RX3 yX3_refused wsX3_refused) := goodIn_app (goodIn_of _ (by decide +kernel)) ggX3_chord_X3_refused
set_option maxRecDepth 20000 in
theorem ggX3_addPiece_X3_in : GoodIn wsX3_addPiece wsX3_in := goodIn_r _ [7] (by decide +kernel) (by decide +kernel)
set_option maxRecDepth 20000 in
theorem gX3_addPiece_X3_in : GoodIn wsX3_addPiece (va_wsS RX3 38 yX3_in wsX3_in) := goodIn_app (goodIn_of _ (by decide +kernel)) ggX3_addPiece_X3_in
set_option maxRecDepth 20000 in
theorem ggX3_addPiece_X3_refused : GoodIn wsX3_addPiece wsX3_refused := goodIn_r _ [11, 12, 13, 14, 15, 16, 17, 18, 19, 20, 21, 22, 23] (by decide +kernel) (by decide +kernel)
set_option maxRecDepth 20000 in
theorem gX3_addPiece_X3_refused : GoodIn wsX3_addPiece (wsV RX3 58 RX3 yX3_refused wsX3_refused) := goodIn_app (goodIn_of _ (by decide +kernel)) ggX3_addPiece_X3_refused
set_option maxRecDepth 20000 in
theorem ggX3_floorOf_X3_toneAt : GoodIn wsX3_floorOf wsX3_toneAt := goodIn_r _ [5, 6, 7, 8, 9, 10, 11, 12, 13, 14, 15, 16, 17] (by decide +kernel) (by decide +kernel)
set_option maxRecDepth 20000 in
theorem gX3_floorOf_X3_toneAt : GoodIn wsX3_floorOf (wsV RX3 78 RX3 yX3_toneAt wsX3_toneAt) := goodIn_app (goodIn_of _ (by decide +kernel)) ggX3_floorOf_X3_toneAt
set_option maxRecDepth 20000 in
theorem ggX3_roofOf_X3_toneAt : GoodIn wsX3_roofOf wsX3_toneAt := goodIn_r _ [5, 6, 7, 8, 9, 10, 11, 12, 13, 14, 15, 16, 17] (by decide +kernel) (by decide +kernel)
set_option maxRecDepth 20000 in
theorem gX3_roofOf_X3_toneAt : GoodIn wsX3_roofOf (wsV RX3 78 RX3 yX3_toneAt wsX3_toneAt) := goodIn_app (goodIn_of _ (by decide +kernel)) ggX3_roofOf_X3_toneAt
set_option maxRecDepth 20000 in
theorem ggX3_setTone_X3_isVoice : GoodIn wsX3_setTone wsX3_isVoice := goodIn_r _ [5, 6, 7, 4, 8] (by decide +kernel) (by decide +kernel)
set_option maxRecDepth 20000 in
theorem gX3_setTone_X3_isVoice : GoodIn wsX3_setTone (va_wsS RX3 52 yX3_isVoice wsX3_isVoice) := goodIn_app (goodIn_of _ (by decide +kernel)) ggX3_setTone_X3_isVoice
set_option maxRecDepth 20000 in
theorem ggX3_setTone_X3_isTone : GoodIn wsX3_setTone wsX3_isTone := goodIn_r _ [11, 6, 7, 4, 8] (by decide +kernel) (by decide +kernel)
set_option maxRecDepth 20000 in
theorem gX3_setTone_X3_isTone : GoodIn wsX3_setTone (va_wsS RX3 55 yX3_isTone wsX3_isTone) := goodIn_app (goodIn_of _ (by decide +kernel)) ggX3_setTone_X3_isTone
set_option maxRecDepth 20000 in
theorem ggX3_setTone_X3_isChord : GoodIn wsX3_setTone wsX3_isChord := goodIn_r _ [15, 16, 17, 18, 19, 4, 20, 21, 6, 7, 8, 39, 40, 41, 42, 43, 44, 45, 46, 47, 48, 49] (by decide +kernel) (by decide +kernel)
set_option maxRecDepth 20000 in
theorem gX3_setTone_X3_isChord : GoodIn wsX3_setTone (wsV RX3 82 RX3 yX3_isChord wsX3_isChord) := goodIn_app (goodIn_of _ (by decide +kernel)) ggX3_setTone_X3_isChord
set_option maxRecDepth 20000 in
theorem ggX3_setTone_X3_floorOf : GoodIn wsX3_setTone wsX3_floorOf := goodIn_r _ [25, 26, 27, 28, 4, 29, 1, 39, 40, 41, 42, 43, 44, 45, 46, 47, 48, 49] (by decide +kernel) (by decide +kernel)
set_option maxRecDepth 20000 in
theorem gX3_setTone_X3_floorOf : GoodIn wsX3_setTone (wsV RX3 85 RX3 yX3_floorOf wsX3_floorOf) := goodIn_app (goodIn_of _ (by decide +kernel)) ggX3_setTone_X3_floorOf
set_option maxRecDepth 20000 in
theorem ggX3_setTone_X3_roofOf : GoodIn wsX3_setTone wsX3_roofOf := goodIn_r _ [33, 26, 27, 28, 4, 29, 1, 39, 40, 41, 42, 43, 44, 45, 46, 47, 48, 49] (by decide +kernel) (by decide +kernel)
set_option maxRecDepth 20000 in
theorem gX3_setTone_X3_roofOf : GoodIn wsX3_setTone (wsV RX3 88 RX3 yX3_roofOf wsX3_roofOf) := goodIn_app (goodIn_of _ (by decide +kernel)) ggX3_setTone_X3_roofOf
set_option maxRecDepth 20000 in
theorem ggX3_setTone_X3_in : GoodIn wsX3_setTone wsX3_in := goodIn_r _ [8] (by decide +kernel) (by decide +kernel)
set_option maxRecDepth 20000 in
theorem gX3_setTone_X3_in : GoodIn wsX3_setTone (va_wsS RX3 38 yX3_in wsX3_in) := goodIn_app (goodIn_of _ (by decide +kernel)) ggX3_setTone_X3_in
set_option maxRecDepth 20000 in
theorem ggX3_setTone_X3_refused : GoodIn wsX3_setTone wsX3_refused := goodIn_r _ [37, 38, 39, 40, 41, 42, 43, 44, 45, 46, 47, 48, 49] (by decide +kernel) (by decide +kernel)
set_option maxRecDepth 20000 in
theorem gX3_setTone_X3_refused : GoodIn wsX3_setTone (wsV RX3 58 RX3 yX3_refused wsX3_refused) := goodIn_app (goodIn_of _ (by decide +kernel)) ggX3_setTone_X3_refused
set_option maxRecDepth 20000 in
theorem ggX3_setTone_X3_toneAt : GoodIn wsX3_setTone wsX3_toneAt := goodIn_r _ [29, 1, 39, 40, 41, 42, 43, 44, 45, 46, 47, 48, 49] (by decide +kernel) (by decide +kernel)
set_option maxRecDepth 20000 in
theorem gX3_setTone_X3_toneAt : GoodIn wsX3_setTone (wsV RX3 78 RX3 yX3_toneAt wsX3_toneAt) := goodIn_app (goodIn_of _ (by decide +kernel)) ggX3_setTone_X3_toneAt
set_option maxRecDepth 20000 in
theorem ggX3_isParallel_X3_toneAt : GoodIn wsX3_isParallel wsX3_toneAt := goodIn_r _ [5, 6, 7, 8, 9, 10, 11, 12, 13, 14, 15, 16, 17] (by decide +kernel) (by decide +kernel)
set_option maxRecDepth 20000 in
theorem gX3_isParallel_X3_toneAt : GoodIn wsX3_isParallel (wsV RX3 78 RX3 yX3_toneAt wsX3_toneAt) := goodIn_app (goodIn_of _ (by decide +kernel)) ggX3_isParallel_X3_toneAt
set_option maxRecDepth 20000 in
theorem ggX3_faultsOf_X3_toneAt : GoodIn wsX3_faultsOf wsX3_toneAt := goodIn_r _ [5, 6, 14, 15, 16, 17, 18, 19, 20, 21, 22, 23, 24] (by decide +kernel) (by decide +kernel)
set_option maxRecDepth 20000 in
theorem gX3_faultsOf_X3_toneAt : GoodIn wsX3_faultsOf (wsV RX3 78 RX3 yX3_toneAt wsX3_toneAt) := goodIn_app (goodIn_of _ (by decide +kernel)) ggX3_faultsOf_X3_toneAt
set_option maxRecDepth 20000 in
theorem ggX3_faultsOf_X3_in : GoodIn wsX3_faultsOf wsX3_in := goodIn_r _ [9] (by decide +kernel) (by decide +kernel)
set_option maxRecDepth 20000 in
theorem gX3_faultsOf_X3_in : GoodIn wsX3_faultsOf (va_wsS RX3 38 yX3_in wsX3_in) := goodIn_app (goodIn_of _ (by decide +kernel)) ggX3_faultsOf_X3_in
set_option maxRecDepth 20000 in
theorem ggX3_faultsOf_X3_isParallel : GoodIn wsX3_faultsOf wsX3_isParallel := goodIn_r _ [13, 1, 2, 3, 4, 5, 6, 14, 15, 16, 17, 18, 19, 20, 21, 22, 23, 24] (by decide +kernel) (by decide +kernel)
set_option maxRecDepth 20000 in
theorem gX3_faultsOf_X3_isParallel : GoodIn wsX3_faultsOf (wsV RX3 91 RX3 yX3_isParallel wsX3_isParallel) := goodIn_app (goodIn_of _ (by decide +kernel)) ggX3_faultsOf_X3_isParallel
set_option maxRecDepth 20000 in
theorem ggX3_faultsAt_X3_isChord : GoodIn wsX3_faultsAt wsX3_isChord := goodIn_r _ [5, 6, 7, 8, 9, 4, 10, 11, 12, 13, 14, 33, 34, 35, 36, 37, 38, 39, 40, 41, 42, 43] (by decide +kernel) (by decide +kernel)
set_option maxRecDepth 20000 in
theorem gX3_faultsAt_X3_isChord : GoodIn wsX3_faultsAt (wsV RX3 82 RX3 yX3_isChord wsX3_isChord) := goodIn_app (goodIn_of _ (by decide +kernel)) ggX3_faultsAt_X3_isChord
set_option maxRecDepth 20000 in
theorem ggX3_faultsAt_X3_refused : GoodIn wsX3_faultsAt wsX3_refused := goodIn_r _ [18, 19, 33, 34, 35, 36, 37, 38, 39, 40, 41, 42, 43] (by decide +kernel) (by decide +kernel)
set_option maxRecDepth 20000 in
theorem gX3_faultsAt_X3_refused : GoodIn wsX3_faultsAt (wsV RX3 58 RX3 yX3_refused wsX3_refused) := goodIn_app (goodIn_of _ (by decide +kernel)) ggX3_faultsAt_X3_refused
set_option maxRecDepth 20000 in
theorem ggX3_faultsAt_X3_faultsOf : GoodIn wsX3_faultsAt wsX3_faultsOf := goodIn_r _ [23, 24, 25, 26, 4, 27, 28, 12, 13, 14, 29, 30, 31, 32, 33, 34, 35, 36, 37, 38, 39, 40, 41, 42, 43] (by decide +kernel) (by decide +kernel)
set_option maxRecDepth 20000 in
theorem gX3_faultsAt_X3_faultsOf : GoodIn wsX3_faultsAt (wsV RX3 95 RX3 yX3_faultsOf wsX3_faultsOf) := goodIn_app (goodIn_of _ (by decide +kernel)) ggX3_faultsAt_X3_faultsOf
set_option maxRecDepth 20000 in
theorem ggX3_allFaults_X3_faultsOf : GoodIn wsX3_allFaults wsX3_faultsOf := goodIn_r _ [6, 7, 8, 9, 5, 10, 11, 12, 13, 14, 15, 16, 17, 18, 19, 20, 21, 22, 23, 24, 25, 26, 27, 28, 29] (by decide +kernel) (by decide +kernel)
set_option maxRecDepth 20000 in
theorem gX3_allFaults_X3_faultsOf : GoodIn wsX3_allFaults (wsV RX3 95 RX3 yX3_faultsOf wsX3_faultsOf) := goodIn_app (goodIn_of _ (by decide +kernel)) ggX3_allFaults_X3_faultsOf
set_option maxRecDepth 20000 in
theorem ggX3_faults_X3_isPiece : GoodIn wsX3_faults wsX3_isPiece := goodIn_r _ [5, 6, 7, 8, 4, 9, 33, 34, 35, 36, 37, 38, 39, 40, 41, 42, 43] (by decide +kernel) (by decide +kernel)
set_option maxRecDepth 20000 in
theorem gX3_faults_X3_isPiece : GoodIn wsX3_faults (wsV RX3 48 RX3 yX3_isPiece wsX3_isPiece) := goodIn_app (goodIn_of _ (by decide +kernel)) ggX3_faults_X3_isPiece
set_option maxRecDepth 20000 in
theorem ggX3_faults_X3_refused : GoodIn wsX3_faults wsX3_refused := goodIn_r _ [13, 14, 33, 34, 35, 36, 37, 38, 39, 40, 41, 42, 43] (by decide +kernel) (by decide +kernel)
set_option maxRecDepth 20000 in
theorem gX3_faults_X3_refused : GoodIn wsX3_faults (wsV RX3 58 RX3 yX3_refused wsX3_refused) := goodIn_app (goodIn_of _ (by decide +kernel)) ggX3_faults_X3_refused
set_option maxRecDepth 20000 in
theorem ggX3_faults_X3_allFaults : GoodIn wsX3_faults wsX3_allFaults := goodIn_r _ [18, 19, 20, 21, 22, 4, 23, 24, 25, 26, 27, 28, 7, 8, 9, 29, 30, 31, 32, 33, 34, 35, 36, 37, 38, 39, 40, 41, 42, 43] (by decide +kernel) (by decide +kernel)
set_option maxRecDepth 20000 in
theorem gX3_faults_X3_allFaults : GoodIn wsX3_faults (wsV RX3 98 RX3 yX3_allFaults wsX3_allFaults) := goodIn_app (goodIn_of _ (by decide +kernel)) ggX3_faults_X3_allFaults
set_option maxRecDepth 20000 in
theorem ggX3_leastFaults_X3_isChord : GoodIn wsX3_leastFaults wsX3_isChord := goodIn_r _ [7, 1, 8, 9, 10, 6, 11, 12, 13, 14, 15, 48, 49, 50, 51, 52, 53, 54, 55, 56, 57, 58] (by decide +kernel) (by decide +kernel)
set_option maxRecDepth 20000 in
theorem gX3_leastFaults_X3_isChord : GoodIn wsX3_leastFaults (wsV RX3 82 RX3 yX3_isChord wsX3_isChord) := goodIn_app (goodIn_of _ (by decide +kernel)) ggX3_leastFaults_X3_isChord
set_option maxRecDepth 20000 in
theorem ggX3_leastFaults_X3_isVoice : GoodIn wsX3_leastFaults wsX3_isVoice := goodIn_r _ [18, 13, 14, 6, 15] (by decide +kernel) (by decide +kernel)
set_option maxRecDepth 20000 in
theorem gX3_leastFaults_X3_isVoice : GoodIn wsX3_leastFaults (va_wsS RX3 52 yX3_isVoice wsX3_isVoice) := goodIn_app (goodIn_of _ (by decide +kernel)) ggX3_leastFaults_X3_isVoice
set_option maxRecDepth 20000 in
theorem ggX3_leastFaults_X3_refused : GoodIn wsX3_leastFaults wsX3_refused := goodIn_r _ [22, 23, 48, 49, 50, 51, 52, 53, 54, 55, 56, 57, 58] (by decide +kernel) (by decide +kernel)
set_option maxRecDepth 20000 in
theorem gX3_leastFaults_X3_refused : GoodIn wsX3_leastFaults (wsV RX3 58 RX3 yX3_refused wsX3_refused) := goodIn_app (goodIn_of _ (by decide +kernel)) ggX3_leastFaults_X3_refused
set_option maxRecDepth 20000 in
theorem ggX3_leastFaults_X3_toneAt : GoodIn wsX3_leastFaults wsX3_toneAt := goodIn_r _ [27, 2, 48, 49, 50, 51, 52, 53, 54, 55, 56, 57, 58] (by decide +kernel) (by decide +kernel)
set_option maxRecDepth 20000 in
theorem gX3_leastFaults_X3_toneAt : GoodIn wsX3_leastFaults (wsV RX3 78 RX3 yX3_toneAt wsX3_toneAt) := goodIn_app (goodIn_of _ (by decide +kernel)) ggX3_leastFaults_X3_toneAt
set_option maxRecDepth 20000 in
theorem ggX3_leastFaults_X3_allFaults : GoodIn wsX3_leastFaults wsX3_allFaults := goodIn_r _ [31, 1, 32, 33, 34, 6, 35, 24, 25, 26, 27, 2, 13, 14, 15, 36, 37, 38, 39, 48, 49, 50, 51, 52, 53, 54, 55, 56, 57, 58] (by decide +kernel) (by decide +kernel)
set_option maxRecDepth 20000 in
theorem gX3_leastFaults_X3_allFaults : GoodIn wsX3_leastFaults (wsV RX3 98 RX3 yX3_allFaults wsX3_allFaults) := goodIn_app (goodIn_of _ (by decide +kernel)) ggX3_leastFaults_X3_allFaults
set_option maxRecDepth 20000 in
theorem ggX3_leastFaults_X3_roofOf : GoodIn wsX3_leastFaults wsX3_roofOf := goodIn_r _ [43, 24, 25, 26, 6, 27, 2, 48, 49, 50, 51, 52, 53, 54, 55, 56, 57, 58] (by decide +kernel) (by decide +kernel)
set_option maxRecDepth 20000 in
theorem gX3_leastFaults_X3_roofOf : GoodIn wsX3_leastFaults (wsV RX3 88 RX3 yX3_roofOf wsX3_roofOf) := goodIn_app (goodIn_of _ (by decide +kernel)) ggX3_leastFaults_X3_roofOf
set_option maxRecDepth 20000 in
theorem ggX3_leastFaults_X3_floorOf : GoodIn wsX3_leastFaults wsX3_floorOf := goodIn_r _ [47, 24, 25, 26, 6, 27, 2, 48, 49, 50, 51, 52, 53, 54, 55, 56, 57, 58] (by decide +kernel) (by decide +kernel)
set_option maxRecDepth 20000 in
theorem gX3_leastFaults_X3_floorOf : GoodIn wsX3_leastFaults (wsV RX3 85 RX3 yX3_floorOf wsX3_floorOf) := goodIn_app (goodIn_of _ (by decide +kernel)) ggX3_leastFaults_X3_floorOf
set_option maxRecDepth 20000 in
theorem ggX3_fits_X3_firstOf : GoodIn wsX3_fits wsX3_firstOf := goodIn_r _ [6, 7, 8, 9, 10, 11, 12, 5, 13, 14, 28, 29, 30, 31, 32, 33, 34, 35, 36, 37, 38] (by decide +kernel) (by decide +kernel)
set_option maxRecDepth 20000 in
theorem gX3_fits_X3_firstOf : GoodIn wsX3_fits (wsV RX3 71 RX3 yX3_firstOf wsX3_firstOf) := goodIn_app (goodIn_of _ (by decide +kernel)) ggX3_fits_X3_firstOf
set_option maxRecDepth 20000 in
theorem ggX3_fits_X3_lastOf : GoodIn wsX3_fits wsX3_lastOf := goodIn_r _ [18, 7, 8, 19, 10, 11, 12, 5, 13, 14, 28, 29, 30, 31, 32, 33, 34, 35, 36, 37, 38] (by decide +kernel) (by decide +kernel)
set_option maxRecDepth 20000 in
theorem gX3_fits_X3_lastOf : GoodIn wsX3_fits (wsV RX3 75 RX3 yX3_lastOf wsX3_lastOf) := goodIn_app (goodIn_of _ (by decide +kernel)) ggX3_fits_X3_lastOf
set_option maxRecDepth 20000 in
theorem ggX3_fits_X3_toneAt : GoodIn wsX3_fits wsX3_toneAt := goodIn_r _ [23, 24, 28, 29, 30, 31, 32, 33, 34, 35, 36, 37, 38] (by decide +kernel) (by decide +kernel)
set_option maxRecDepth 20000 in
theorem gX3_fits_X3_toneAt : GoodIn wsX3_fits (wsV RX3 78 RX3 yX3_toneAt wsX3_toneAt) := goodIn_app (goodIn_of _ (by decide +kernel)) ggX3_fits_X3_toneAt
set_option maxRecDepth 20000 in
theorem ggX3_fits_X3_in : GoodIn wsX3_fits wsX3_in := goodIn_r _ [27] (by decide +kernel) (by decide +kernel)
set_option maxRecDepth 20000 in
theorem gX3_fits_X3_in : GoodIn wsX3_fits (va_wsS RX3 38 yX3_in wsX3_in) := goodIn_app (goodIn_of _ (by decide +kernel)) ggX3_fits_X3_in
set_option maxRecDepth 20000 in
theorem ggX3_shiftOf_X3_fits : GoodIn wsX3_shiftOf wsX3_fits := goodIn_r _ [5, 6, 7, 8, 9, 4, 10, 11, 12, 13, 14, 15, 16, 17, 18, 19, 20, 21, 22, 23, 24, 25, 26, 27, 28, 29, 30, 31, 32, 33, 34, 35, 36, 37, 38, 39, 40, 41, 42] (by decide +kernel) (by decide +kernel)
set_option maxRecDepth 20000 in
theorem gX3_shiftOf_X3_fits : GoodIn wsX3_shiftOf (wsV RX3 102 RX3 yX3_fits wsX3_fits) := goodIn_app (goodIn_of _ (by decide +kernel)) ggX3_shiftOf_X3_fits
set_option maxRecDepth 20000 in
theorem ggX3_shift_X3_isPiece : GoodIn wsX3_shift wsX3_isPiece := goodIn_r _ [5, 6, 7, 8, 4, 9, 49, 50, 51, 52, 53, 54, 55, 56, 57, 58, 59] (by decide +kernel) (by decide +kernel)
set_option maxRecDepth 20000 in
theorem gX3_shift_X3_isPiece : GoodIn wsX3_shift (wsV RX3 48 RX3 yX3_isPiece wsX3_isPiece) := goodIn_app (goodIn_of _ (by decide +kernel)) ggX3_shift_X3_isPiece
set_option maxRecDepth 20000 in
theorem ggX3_shift_X3_isDate : GoodIn wsX3_shift wsX3_isDate := goodIn_r _ [12, 7, 8, 4, 9] (by decide +kernel) (by decide +kernel)
set_option maxRecDepth 20000 in
theorem gX3_shift_X3_isDate : GoodIn wsX3_shift (va_wsS RX3 64 yX3_isDate wsX3_isDate) := goodIn_app (goodIn_of _ (by decide +kernel)) ggX3_shift_X3_isDate
set_option maxRecDepth 20000 in
theorem ggX3_shift_X3_shiftOf : GoodIn wsX3_shift wsX3_shiftOf := goodIn_r _ [16, 17, 18, 19, 4, 20, 21, 22, 23, 24, 25, 26, 27, 28, 29, 30, 31, 32, 33, 34, 35, 36, 37, 38, 39, 40, 41, 42, 43, 7, 8, 9, 49, 50, 51, 52, 53, 54, 55, 56, 57, 58, 59] (by decide +kernel) (by decide +kernel)
set_option maxRecDepth 20000 in
theorem gX3_shift_X3_shiftOf : GoodIn wsX3_shift (wsV RX3 105 RX3 yX3_shiftOf wsX3_shiftOf) := goodIn_app (goodIn_of _ (by decide +kernel)) ggX3_shift_X3_shiftOf
set_option maxRecDepth 20000 in
theorem ggX3_shift_X3_refused : GoodIn wsX3_shift wsX3_refused := goodIn_r _ [47, 48, 49, 50, 51, 52, 53, 54, 55, 56, 57, 58, 59] (by decide +kernel) (by decide +kernel)
set_option maxRecDepth 20000 in
theorem gX3_shift_X3_refused : GoodIn wsX3_shift (wsV RX3 58 RX3 yX3_refused wsX3_refused) := goodIn_app (goodIn_of _ (by decide +kernel)) ggX3_shift_X3_refused
set_option maxRecDepth 20000 in
theorem ggX3_dates_X3_isPiece : GoodIn wsX3_dates wsX3_isPiece := goodIn_r _ [5, 6, 7, 8, 4, 9, 46, 47, 48, 49, 50, 51, 52, 53, 54, 55, 56] (by decide +kernel) (by decide +kernel)
set_option maxRecDepth 20000 in
theorem gX3_dates_X3_isPiece : GoodIn wsX3_dates (wsV RX3 48 RX3 yX3_isPiece wsX3_isPiece) := goodIn_app (goodIn_of _ (by decide +kernel)) ggX3_dates_X3_isPiece
set_option maxRecDepth 20000 in
theorem ggX3_dates_X3_refused : GoodIn wsX3_dates wsX3_refused := goodIn_r _ [13, 14, 46, 47, 48, 49, 50, 51, 52, 53, 54, 55, 56] (by decide +kernel) (by decide +kernel)
set_option maxRecDepth 20000 in
theorem gX3_dates_X3_refused : GoodIn wsX3_dates (wsV RX3 58 RX3 yX3_refused wsX3_refused) := goodIn_app (goodIn_of _ (by decide +kernel)) ggX3_dates_X3_refused
set_option maxRecDepth 20000 in
theorem ggX3_dates_X3_shiftOf : GoodIn wsX3_dates wsX3_shiftOf := goodIn_r _ [18, 19, 20, 21, 4, 22, 23, 24, 25, 26, 27, 28, 29, 30, 31, 32, 33, 34, 35, 36, 37, 38, 39, 40, 41, 42, 43, 44, 45, 7, 8, 9, 46, 47, 48, 49, 50, 51, 52, 53, 54, 55, 56] (by decide +kernel) (by decide +kernel)
set_option maxRecDepth 20000 in
theorem gX3_dates_X3_shiftOf : GoodIn wsX3_dates (wsV RX3 105 RX3 yX3_shiftOf wsX3_shiftOf) := goodIn_app (goodIn_of _ (by decide +kernel)) ggX3_dates_X3_shiftOf
set_option maxRecDepth 20000 in
theorem ggX3_missed_X3_isDate : GoodIn wsX3_missed wsX3_isDate := goodIn_r _ [6, 7, 8, 5, 9] (by decide +kernel) (by decide +kernel)
set_option maxRecDepth 20000 in
theorem gX3_missed_X3_isDate : GoodIn wsX3_missed (va_wsS RX3 64 yX3_isDate wsX3_isDate) := goodIn_app (goodIn_of _ (by decide +kernel)) ggX3_missed_X3_isDate
set_option maxRecDepth 20000 in
theorem ggX3_missed_X3_refused : GoodIn wsX3_missed wsX3_refused := goodIn_r _ [13, 14, 25, 26, 27, 28, 29, 30, 31, 32, 33, 34, 35] (by decide +kernel) (by decide +kernel)
set_option maxRecDepth 20000 in
theorem gX3_missed_X3_refused : GoodIn wsX3_missed (wsV RX3 58 RX3 yX3_refused wsX3_refused) := goodIn_app (goodIn_of _ (by decide +kernel)) ggX3_missed_X3_refused
set_option maxRecDepth 20000 in
theorem ggX3_missed_X3_isThere : GoodIn wsX3_missed wsX3_isThere := goodIn_r _ [18, 19, 25, 26, 27, 28, 29, 30, 31, 32, 33, 34, 35] (by decide +kernel) (by decide +kernel)
set_option maxRecDepth 20000 in
theorem gX3_missed_X3_isThere : GoodIn wsX3_missed (wsV RX3 67 RX3 yX3_isThere wsX3_isThere) := goodIn_app (goodIn_of _ (by decide +kernel)) ggX3_missed_X3_isThere
set_option maxRecDepth 20000 in
theorem ggX3_missed_X3_firstOf : GoodIn wsX3_missed wsX3_firstOf := goodIn_r _ [23, 1, 2, 24, 15, 16, 17, 5, 18, 19, 25, 26, 27, 28, 29, 30, 31, 32, 33, 34, 35] (by decide +kernel) (by decide +kernel)
set_option maxRecDepth 20000 in
theorem gX3_missed_X3_firstOf : GoodIn wsX3_missed (wsV RX3 71 RX3 yX3_firstOf wsX3_firstOf) := goodIn_app (goodIn_of _ (by decide +kernel)) ggX3_missed_X3_firstOf
set_option maxRecDepth 20000 in
theorem ggX3_isBetter_X3_lengthOf : GoodIn wsX3_isBetter wsX3_lengthOf := goodIn_r _ [5, 6, 7, 11, 12, 13, 14, 15, 16, 17, 18, 19, 20, 21] (by decide +kernel) (by decide +kernel)
set_option maxRecDepth 20000 in
theorem gX3_isBetter_X3_lengthOf : GoodIn wsX3_isBetter (wsV RX3 108 RX3 yX3_lengthOf wsX3_lengthOf) := goodIn_app (goodIn_of _ (by decide +kernel)) ggX3_isBetter_X3_lengthOf
set_option maxRecDepth 20000 in
theorem ggX3_isBetter_X3_bits : GoodIn wsX3_isBetter wsX3_bits := goodIn_r _ [10] (by decide +kernel) (by decide +kernel)
set_option maxRecDepth 20000 in
theorem gX3_isBetter_X3_bits : GoodIn wsX3_isBetter (va_wsS RX3 111 yX3_bits wsX3_bits) := goodIn_app (goodIn_of _ (by decide +kernel)) ggX3_isBetter_X3_bits
set_option maxRecDepth 20000 in
theorem ggX3_planned_X3_shiftOf : GoodIn wsX3_planned wsX3_shiftOf := goodIn_r _ [6, 7, 8, 9, 5, 10, 11, 12, 13, 14, 15, 16, 17, 18, 19, 20, 21, 22, 23, 24, 25, 26, 27, 28, 29, 30, 31, 32, 33, 34, 35, 36, 49, 50, 51, 52, 53, 54, 55, 56, 57, 58, 59] (by decide +kernel) (by decide +kernel)
set_option maxRecDepth 20000 in
theorem gX3_planned_X3_shiftOf : GoodIn wsX3_planned (wsV RX3 105 RX3 yX3_shiftOf wsX3_shiftOf) := goodIn_app (goodIn_of _ (by decide +kernel)) ggX3_planned_X3_shiftOf
set_option maxRecDepth 20000 in
theorem ggX3_planned_X3_lengthOf : GoodIn wsX3_planned wsX3_lengthOf := goodIn_r _ [40, 1, 41, 49, 50, 51, 52, 53, 54, 55, 56, 57, 58, 59] (by decide +kernel) (by decide +kernel)
set_option maxRecDepth 20000 in
theorem gX3_planned_X3_lengthOf : GoodIn wsX3_planned (wsV RX3 108 RX3 yX3_lengthOf wsX3_lengthOf) := goodIn_app (goodIn_of _ (by decide +kernel)) ggX3_planned_X3_lengthOf
set_option maxRecDepth 20000 in
theorem ggX3_planned_X3_isBetter : GoodIn wsX3_planned wsX3_isBetter := goodIn_r _ [45, 37, 38, 39, 5, 40, 1, 41, 46, 47, 48, 49, 50, 51, 52, 53, 54, 55, 56, 57, 58, 59] (by decide +kernel) (by decide +kernel)
set_option maxRecDepth 20000 in
theorem gX3_planned_X3_isBetter : GoodIn wsX3_planned (wsV RX3 114 RX3 yX3_isBetter wsX3_isBetter) := goodIn_app (goodIn_of _ (by decide +kernel)) ggX3_planned_X3_isBetter
set_option maxRecDepth 20000 in
theorem ggX3_noDate_X3_isDate : GoodIn wsX3_noDate wsX3_isDate := goodIn_r _ [4, 5, 6, 3, 7] (by decide +kernel) (by decide +kernel)
set_option maxRecDepth 20000 in
theorem gX3_noDate_X3_isDate : GoodIn wsX3_noDate (va_wsS RX3 64 yX3_isDate wsX3_isDate) := goodIn_app (goodIn_of _ (by decide +kernel)) ggX3_noDate_X3_isDate
set_option maxRecDepth 20000 in
theorem ggX3_noDate_X3_in : GoodIn wsX3_noDate wsX3_in := goodIn_r _ [7] (by decide +kernel) (by decide +kernel)
set_option maxRecDepth 20000 in
theorem gX3_noDate_X3_in : GoodIn wsX3_noDate (va_wsS RX3 38 yX3_in wsX3_in) := goodIn_app (goodIn_of _ (by decide +kernel)) ggX3_noDate_X3_in
set_option maxRecDepth 20000 in
theorem ggX3_noDate_X3_refused : GoodIn wsX3_noDate wsX3_refused := goodIn_r _ [11, 12, 13, 14, 15, 16, 17, 18, 19, 20, 21, 22, 23] (by decide +kernel) (by decide +kernel)
set_option maxRecDepth 20000 in
theorem gX3_noDate_X3_refused : GoodIn wsX3_noDate (wsV RX3 58 RX3 yX3_refused wsX3_refused) := goodIn_app (goodIn_of _ (by decide +kernel)) ggX3_noDate_X3_refused
set_option maxRecDepth 20000 in
theorem ggX3_programme_X3_noDate : GoodIn wsX3_programme wsX3_noDate := goodIn_r _ [5, 6, 7, 4, 8, 9, 10, 11, 12, 13, 14, 15, 16, 65, 66, 67, 68, 69, 70, 71, 72, 73, 74, 75] (by decide +kernel) (by decide +kernel)
set_option maxRecDepth 20000 in
theorem gX3_programme_X3_noDate : GoodIn wsX3_programme (wsV RX3 117 RX3 yX3_noDate wsX3_noDate) := goodIn_app (goodIn_of _ (by decide +kernel)) ggX3_programme_X3_noDate
set_option maxRecDepth 20000 in
theorem ggX3_programme_X3_planned : GoodIn wsX3_programme wsX3_planned := goodIn_r _ [20, 21, 22, 23, 24, 4, 25, 26, 27, 28, 29, 30, 31, 32, 33, 34, 35, 36, 37, 38, 39, 40, 41, 42, 43, 44, 45, 46, 47, 48, 49, 50, 51, 52, 9, 10, 11, 53, 54, 55, 56, 57, 58, 59, 60, 61, 62, 63, 64, 65, 66, 67, 68, 69, 70, 71, 72, 73, 74, 75] (by decide +kernel) (by decide +kernel)
set_option maxRecDepth 20000 in
theorem gX3_programme_X3_planned : GoodIn wsX3_programme (wsV RX3 120 RX3 yX3_planned wsX3_planned) := goodIn_app (goodIn_of _ (by decide +kernel)) ggX3_programme_X3_planned
set_option maxRecDepth 20000 in
theorem ggX3_duration_X3_noDate : GoodIn wsX3_duration wsX3_noDate := goodIn_r _ [5, 6, 7, 4, 8, 9, 10, 11, 12, 13, 14, 15, 16, 65, 66, 67, 68, 69, 70, 71, 72, 73, 74, 75] (by decide +kernel) (by decide +kernel)
set_option maxRecDepth 20000 in
theorem gX3_duration_X3_noDate : GoodIn wsX3_duration (wsV RX3 117 RX3 yX3_noDate wsX3_noDate) := goodIn_app (goodIn_of _ (by decide +kernel)) ggX3_duration_X3_noDate
set_option maxRecDepth 20000 in
theorem ggX3_duration_X3_planned : GoodIn wsX3_duration wsX3_planned := goodIn_r _ [20, 21, 22, 23, 24, 4, 25, 26, 27, 28, 29, 30, 31, 32, 33, 34, 35, 36, 37, 38, 39, 40, 41, 42, 43, 44, 45, 46, 47, 48, 49, 50, 51, 52, 9, 10, 11, 53, 54, 55, 56, 57, 58, 59, 60, 61, 62, 63, 64, 65, 66, 67, 68, 69, 70, 71, 72, 73, 74, 75] (by decide +kernel) (by decide +kernel)
set_option maxRecDepth 20000 in
theorem gX3_duration_X3_planned : GoodIn wsX3_duration (wsV RX3 120 RX3 yX3_planned wsX3_planned) := goodIn_app (goodIn_of _ (by decide +kernel)) ggX3_duration_X3_planned
set_option maxRecDepth 20000 in
theorem ggX3_duration_X3_lengthOf : GoodIn wsX3_duration wsX3_lengthOf := goodIn_r _ [56, 21, 57, 65, 66, 67, 68, 69, 70, 71, 72, 73, 74, 75] (by decide +kernel) (by decide +kernel)
set_option maxRecDepth 20000 in
theorem gX3_duration_X3_lengthOf : GoodIn wsX3_duration (wsV RX3 108 RX3 yX3_lengthOf wsX3_lengthOf) := goodIn_app (goodIn_of _ (by decide +kernel)) ggX3_duration_X3_lengthOf
set_option maxRecDepth 20000 in
theorem ggX3_weaknessOf_X3_faultsOf : GoodIn wsX3_weaknessOf wsX3_faultsOf := goodIn_r _ [6, 7, 8, 9, 5, 10, 11, 12, 13, 14, 15, 16, 17, 18, 19, 20, 21, 22, 23, 24, 25, 26, 27, 28, 29] (by decide +kernel) (by decide +kernel)
set_option maxRecDepth 20000 in
theorem gX3_weaknessOf_X3_faultsOf : GoodIn wsX3_weaknessOf (wsV RX3 95 RX3 yX3_faultsOf wsX3_faultsOf) := goodIn_app (goodIn_of _ (by decide +kernel)) ggX3_weaknessOf_X3_faultsOf
set_option maxRecDepth 20000 in
theorem ggX3_weakestOf_X3_weaknessOf : GoodIn wsX3_weakestOf wsX3_weaknessOf := goodIn_r _ [6, 7, 8, 9, 10, 5, 11, 12, 13, 14, 15, 16, 17, 18, 19, 20, 21, 22, 23, 24, 25, 26, 27, 28, 29, 30, 31, 32, 33, 34] (by decide +kernel) (by decide +kernel)
end
section
set_option maxRecDepth 20000 in
theorem gX3_weakestOf_X3_weaknessOf : GoodIn wsX3_weakestOf (wsV RX3 123 RX3 yX3_weaknessOf wsX3_weaknessOf) := goodIn_app (goodIn_of _ (by decide +kernel)) ggX3_weakestOf_X3_weaknessOf
set_option maxRecDepth 20000 in
theorem ggX3_rehearse_X3_isPiece : GoodIn wsX3_rehearse wsX3_isPiece := goodIn_r _ [7, 8, 9, 10, 6, 11, 38, 39, 40, 41, 42, 43, 44, 45, 46, 47, 48] (by decide +kernel) (by decide +kernel)
set_option maxRecDepth 20000 in
theorem gX3_rehearse_X3_isPiece : GoodIn wsX3_rehearse (wsV RX3 48 RX3 yX3_isPiece wsX3_isPiece) := goodIn_app (goodIn_of _ (by decide +kernel)) ggX3_rehearse_X3_isPiece
set_option maxRecDepth 20000 in
theorem ggX3_rehearse_X3_in : GoodIn wsX3_rehearse wsX3_in := goodIn_r _ [11] (by decide +kernel) (by decide +kernel)
set_option maxRecDepth 20000 in
theorem gX3_rehearse_X3_in : GoodIn wsX3_rehearse (va_wsS RX3 38 yX3_in wsX3_in) := goodIn_app (goodIn_of _ (by decide +kernel)) ggX3_rehearse_X3_in
set_option maxRecDepth 20000 in
theorem ggX3_rehearse_X3_refused : GoodIn wsX3_rehearse wsX3_refused := goodIn_r _ [15, 16, 38, 39, 40, 41, 42, 43, 44, 45, 46, 47, 48] (by decide +kernel) (by decide +kernel)
set_option maxRecDepth 20000 in
theorem gX3_rehearse_X3_refused : GoodIn wsX3_rehearse (wsV RX3 58 RX3 yX3_refused wsX3_refused) := goodIn_app (goodIn_of _ (by decide +kernel)) ggX3_rehearse_X3_refused
set_option maxRecDepth 20000 in
theorem ggX3_rehearse_X3_weakestOf : GoodIn wsX3_rehearse wsX3_weakestOf := goodIn_r _ [20, 2, 21, 22, 23, 6, 24, 1, 25, 26, 27, 28, 29, 30, 31, 32, 33, 9, 10, 11, 34, 35, 36, 37, 38, 39, 40, 41, 42, 43, 44, 45, 46, 47, 48] (by decide +kernel) (by decide +kernel)
set_option maxRecDepth 20000 in
theorem gX3_rehearse_X3_weakestOf : GoodIn wsX3_rehearse (wsV RX3 126 RX3 yX3_weakestOf wsX3_weakestOf) := goodIn_app (goodIn_of _ (by decide +kernel)) ggX3_rehearse_X3_weakestOf
set_option maxRecDepth 20000 in
theorem ggX3_rehearse_X3_weaknessOf : GoodIn wsX3_rehearse wsX3_weaknessOf := goodIn_r _ [24, 1, 25, 26, 27, 6, 28, 29, 30, 31, 32, 33, 9, 10, 11, 34, 35, 36, 37, 38, 39, 40, 41, 42, 43, 44, 45, 46, 47, 48] (by decide +kernel) (by decide +kernel)
set_option maxRecDepth 20000 in
theorem gX3_rehearse_X3_weaknessOf : GoodIn wsX3_rehearse (wsV RX3 123 RX3 yX3_weaknessOf wsX3_weaknessOf) := goodIn_app (goodIn_of _ (by decide +kernel)) ggX3_rehearse_X3_weaknessOf
set_option maxRecDepth 20000 in
theorem ggX3_weakness_X3_isChord : GoodIn wsX3_weakness wsX3_isChord := goodIn_r _ [5, 6, 7, 8, 9, 4, 10, 11, 12, 13, 14, 38, 39, 40, 41, 42, 43, 44, 45, 46, 47, 48] (by decide +kernel) (by decide +kernel)
set_option maxRecDepth 20000 in
theorem gX3_weakness_X3_isChord : GoodIn wsX3_weakness (wsV RX3 82 RX3 yX3_isChord wsX3_isChord) := goodIn_app (goodIn_of _ (by decide +kernel)) ggX3_weakness_X3_isChord
set_option maxRecDepth 20000 in
theorem ggX3_weakness_X3_refused : GoodIn wsX3_weakness wsX3_refused := goodIn_r _ [18, 19, 38, 39, 40, 41, 42, 43, 44, 45, 46, 47, 48] (by decide +kernel) (by decide +kernel)
set_option maxRecDepth 20000 in
theorem gX3_weakness_X3_refused : GoodIn wsX3_weakness (wsV RX3 58 RX3 yX3_refused wsX3_refused) := goodIn_app (goodIn_of _ (by decide +kernel)) ggX3_weakness_X3_refused
set_option maxRecDepth 20000 in
theorem ggX3_weakness_X3_weaknessOf : GoodIn wsX3_weakness wsX3_weaknessOf := goodIn_r _ [23, 24, 25, 26, 27, 4, 28, 29, 30, 31, 32, 33, 12, 13, 14, 34, 35, 36, 37, 38, 39, 40, 41, 42, 43, 44, 45, 46, 47, 48] (by decide +kernel) (by decide +kernel)
set_option maxRecDepth 20000 in
theorem gX3_weakness_X3_weaknessOf : GoodIn wsX3_weakness (wsV RX3 123 RX3 yX3_weaknessOf wsX3_weaknessOf) := goodIn_app (goodIn_of _ (by decide +kernel)) ggX3_weakness_X3_weaknessOf
set_option maxRecDepth 20000 in
theorem ggX3_weakest_X3_isPiece : GoodIn wsX3_weakest wsX3_isPiece := goodIn_r _ [5, 6, 7, 8, 4, 9, 38, 39, 40, 41, 42, 43, 44, 45, 46, 47, 48] (by decide +kernel) (by decide +kernel)
set_option maxRecDepth 20000 in
theorem gX3_weakest_X3_isPiece : GoodIn wsX3_weakest (wsV RX3 48 RX3 yX3_isPiece wsX3_isPiece) := goodIn_app (goodIn_of _ (by decide +kernel)) ggX3_weakest_X3_isPiece
set_option maxRecDepth 20000 in
theorem ggX3_weakest_X3_refused : GoodIn wsX3_weakest wsX3_refused := goodIn_r _ [13, 14, 38, 39, 40, 41, 42, 43, 44, 45, 46, 47, 48] (by decide +kernel) (by decide +kernel)
set_option maxRecDepth 20000 in
theorem gX3_weakest_X3_refused : GoodIn wsX3_weakest (wsV RX3 58 RX3 yX3_refused wsX3_refused) := goodIn_app (goodIn_of _ (by decide +kernel)) ggX3_weakest_X3_refused
set_option maxRecDepth 20000 in
theorem ggX3_weakest_X3_weakestOf : GoodIn wsX3_weakest wsX3_weakestOf := goodIn_r _ [18, 19, 20, 21, 22, 4, 23, 24, 25, 26, 27, 28, 29, 30, 31, 32, 33, 7, 8, 9, 34, 35, 36, 37, 38, 39, 40, 41, 42, 43, 44, 45, 46, 47, 48] (by decide +kernel) (by decide +kernel)
set_option maxRecDepth 20000 in
theorem gX3_weakest_X3_weakestOf : GoodIn wsX3_weakest (wsV RX3 126 RX3 yX3_weakestOf wsX3_weakestOf) := goodIn_app (goodIn_of _ (by decide +kernel)) ggX3_weakest_X3_weakestOf
set_option maxRecDepth 20000 in
theorem ggL_addSinger_X2_addSinger : GoodIn wsL_addSinger wsX2_addSinger := goodIn_ca (goodIn_ca (goodIn_r _ [7, 8, 9, 10, 11, 12, 13, 14, 6, 15, 16, 17, 18, 19, 20, 21, 22, 23, 24, 25, 26, 27, 28, 29, 30, 31, 32, 33, 34, 35, 36, 37, 38, 39, 40] (by decide +kernel) (by decide +kernel)) (goodIn_sub (fun _ h => List.mem_cons_of_mem _ (List.mem_append_left _ (List.mem_append_right _ h))) (by decide +kernel))) (goodIn_sub (fun _ h => List.mem_cons_of_mem _ (List.mem_append_right _ h)) (by decide +kernel))
set_option maxRecDepth 20000 in
theorem gL_addSinger_X2_addSinger : GoodIn wsL_addSinger (wsV RL 7 RX2 yX2_addSinger wsX2_addSinger) := goodIn_app (goodIn_of _ (by decide +kernel)) ggL_addSinger_X2_addSinger
set_option maxRecDepth 20000 in
theorem ggL_tell_X2_tell : GoodIn wsL_tell wsX2_tell := goodIn_ca (goodIn_ca (goodIn_r _ [7, 8, 9, 10, 11, 6, 12, 13, 14, 15, 16, 17, 18, 19, 20, 21, 22, 23, 24, 25, 26, 27, 28, 29, 30, 31, 32, 33, 34, 35, 36, 37, 38, 39, 40, 41, 42, 43] (by decide +kernel) (by decide +kernel)) (goodIn_sub (fun _ h => List.mem_cons_of_mem _ (List.mem_append_left _ (List.mem_append_right _ h))) (by decide +kernel))) (goodIn_sub (fun _ h => List.mem_cons_of_mem _ (List.mem_append_right _ h)) (by decide +kernel))
set_option maxRecDepth 20000 in
theorem gL_tell_X2_tell : GoodIn wsL_tell (wsV RL 17 RX2 yX2_tell wsX2_tell) := goodIn_app (goodIn_of _ (by decide +kernel)) ggL_tell_X2_tell
set_option maxRecDepth 20000 in
theorem ggL_change_X2_change : GoodIn wsL_change wsX2_change := goodIn_ca (goodIn_ca (goodIn_r _ [7, 8, 9, 10, 11, 6, 12, 13, 14, 15, 16, 17, 18, 19, 20, 21, 22, 23, 24, 25, 26, 27, 28, 29, 30, 31, 32, 33, 34, 35, 36, 37, 38, 39] (by decide +kernel) (by decide +kernel)) (goodIn_sub (fun _ h => List.mem_cons_of_mem _ (List.mem_append_left _ (List.mem_append_right _ h))) (by decide +kernel))) (goodIn_sub (fun _ h => List.mem_cons_of_mem _ (List.mem_append_right _ h)) (by decide +kernel))
set_option maxRecDepth 20000 in
theorem gL_change_X2_change : GoodIn wsL_change (wsV RL 23 RX2 yX2_change wsX2_change) := goodIn_app (goodIn_of _ (by decide +kernel)) ggL_change_X2_change
set_option maxRecDepth 20000 in
theorem ggL_range_X2_range : GoodIn wsL_range wsX2_range := goodIn_ca (goodIn_r _ [6, 7, 8, 9, 5, 10, 11, 12, 13, 14, 15, 16, 17, 18, 19, 20, 21, 22, 23, 24, 25, 26, 27, 28, 29, 30, 31, 32, 33, 34, 35, 36, 37, 38, 39, 40, 41, 42, 43, 44, 45, 46, 47, 48, 49, 50, 51, 52, 53] (by decide +kernel) (by decide +kernel)) (goodIn_sub (fun _ h => List.mem_cons_of_mem _ (List.mem_append_right _ h)) (by decide +kernel))
set_option maxRecDepth 20000 in
theorem gL_range_X2_range : GoodIn wsL_range (wsV RL 27 RX2 yX2_range wsX2_range) := goodIn_app (goodIn_of _ (by decide +kernel)) ggL_range_X2_range
set_option maxRecDepth 20000 in
theorem ggL_chord_X2_chord : GoodIn wsL_chord wsX2_chord := goodIn_ca (goodIn_ca (goodIn_r _ [7, 8, 9, 10, 11, 12, 6, 13, 14, 15, 16, 17, 18, 19, 20, 21, 22, 23, 24, 25, 26, 27, 28, 29, 30, 31, 32, 33, 34, 35, 36, 37, 38, 39, 40, 41, 42, 43, 44, 45, 46, 47, 48, 49, 50, 51, 52, 53, 54, 55, 56, 57, 58, 59] (by decide +kernel) (by decide +kernel)) (goodIn_sub (fun _ h => List.mem_cons_of_mem _ (List.mem_append_left _ (List.mem_append_right _ h))) (by decide +kernel))) (goodIn_sub (fun _ h => List.mem_cons_of_mem _ (List.mem_append_right _ h)) (by decide +kernel))
set_option maxRecDepth 20000 in
theorem gL_chord_X2_chord : GoodIn wsL_chord (wsV RL 30 RX2 yX2_chord wsX2_chord) := goodIn_app (goodIn_of _ (by decide +kernel)) ggL_chord_X2_chord
set_option maxRecDepth 20000 in
theorem ggL_addPiece_X2_addPiece : GoodIn wsL_addPiece wsX2_addPiece := goodIn_ca (goodIn_ca (goodIn_r _ [7, 8, 9, 10, 11, 12, 13, 14, 15, 16, 17, 18, 19, 20, 21, 22, 23, 24, 25, 26, 27, 28, 29, 30, 31, 32, 33, 34, 35, 36, 37, 38, 39, 40, 41, 42, 43, 44, 45] (by decide +kernel) (by decide +kernel)) (goodIn_sub (fun _ h => List.mem_cons_of_mem _ (List.mem_append_left _ (List.mem_append_right _ h))) (by decide +kernel))) (goodIn_sub (fun _ h => List.mem_cons_of_mem _ (List.mem_append_right _ h)) (by decide +kernel))
set_option maxRecDepth 20000 in
theorem gL_addPiece_X2_addPiece : GoodIn wsL_addPiece (wsV RL 34 RX2 yX2_addPiece wsX2_addPiece) := goodIn_app (goodIn_of _ (by decide +kernel)) ggL_addPiece_X2_addPiece
set_option maxRecDepth 20000 in
theorem ggL_setTone_X2_setTone : GoodIn wsL_setTone wsX2_setTone := goodIn_ca (goodIn_ca (goodIn_ca (goodIn_r _ [8, 9, 10, 11, 12, 13, 7, 14, 15, 16, 17, 18, 19, 20, 21, 22, 23, 24, 25, 26, 27, 28, 29, 30, 31, 32, 33, 34, 35, 36, 37, 38, 39, 40, 41, 42, 43, 44, 45, 46, 47, 48, 49, 50, 51, 52, 53, 54, 55, 56, 57, 58, 59, 60, 61, 62, 63, 64, 65, 66, 67, 68, 69, 70, 71, 72, 73, 74, 75, 76, 77, 78, 79, 80, 81, 82] (by decide +kernel) (by decide +kernel)) (goodIn_sub (fun _ h => List.mem_cons_of_mem _ (List.mem_append_left _ (List.mem_append_left _ (List.mem_append_right _ h)))) (by decide +kernel))) (goodIn_sub (fun _ h => List.mem_cons_of_mem _ (List.mem_append_left _ (List.mem_append_right _ h))) (by decide +kernel))) (goodIn_sub (fun _ h => List.mem_cons_of_mem _ (List.mem_append_right _ h)) (by decide +kernel))
set_option maxRecDepth 20000 in
theorem gL_setTone_X2_setTone : GoodIn wsL_setTone (wsV RL 38 RX2 yX2_setTone wsX2_setTone) := goodIn_app (goodIn_of _ (by decide +kernel)) ggL_setTone_X2_setTone
set_option maxRecDepth 20000 in
theorem ggL_faultsAt_X2_faultsAt : GoodIn wsL_faultsAt wsX2_faultsAt := goodIn_ca (goodIn_r _ [6, 7, 8, 9, 5, 10, 11, 12, 13, 14, 15, 16, 17, 18, 19, 20, 21, 22, 23, 24, 25, 26, 27, 28, 29, 30, 31, 32, 33, 34, 35, 36, 37] (by decide +kernel) (by decide +kernel)) (goodIn_sub (fun _ h => List.mem_cons_of_mem _ (List.mem_append_right _ h)) (by decide +kernel))
set_option maxRecDepth 20000 in
theorem gL_faultsAt_X2_faultsAt : GoodIn wsL_faultsAt (wsV RL 41 RX2 yX2_faultsAt wsX2_faultsAt) := goodIn_app (goodIn_of _ (by decide +kernel)) ggL_faultsAt_X2_faultsAt
set_option maxRecDepth 20000 in
theorem ggL_faults_X2_faults : GoodIn wsL_faults wsX2_faults := goodIn_ca (goodIn_r _ [6, 7, 8, 9, 5, 10, 11, 12, 13, 14, 15, 16, 17, 18, 19, 20, 21, 22, 23, 24, 25, 26, 27, 28, 29, 30] (by decide +kernel) (by decide +kernel)) (goodIn_sub (fun _ h => List.mem_cons_of_mem _ (List.mem_append_right _ h)) (by decide +kernel))
set_option maxRecDepth 20000 in
theorem gL_faults_X2_faults : GoodIn wsL_faults (wsV RL 44 RX2 yX2_faults wsX2_faults) := goodIn_app (goodIn_of _ (by decide +kernel)) ggL_faults_X2_faults
set_option maxRecDepth 20000 in
theorem ggL_leastFaults_X2_leastFaults : GoodIn wsL_leastFaults wsX2_leastFaults := goodIn_ca (goodIn_ca (goodIn_r _ [7, 8, 9, 10, 11, 12, 6, 13, 14, 15, 16, 17, 18, 19, 20, 21, 22, 23, 24, 25, 26, 27, 28, 29, 30, 31, 32, 33, 34, 35, 36, 37, 38, 39, 40, 41, 42, 43, 44, 45, 46, 47, 48, 49, 50, 51, 52, 53, 54, 55, 56, 57, 58, 59, 60, 61, 62, 63, 64, 65, 66, 67, 68, 69, 70, 71, 72, 73, 74, 75, 76, 77, 78, 79, 80, 81, 82, 83, 84, 85, 86, 87, 88, 89, 90] (by decide +kernel) (by decide +kernel)) (goodIn_sub (fun _ h => List.mem_cons_of_mem _ (List.mem_append_left _ (List.mem_append_right _ h))) (by decide +kernel))) (goodIn_sub (fun _ h => List.mem_cons_of_mem _ (List.mem_append_right _ h)) (by decide +kernel))
set_option maxRecDepth 20000 in
theorem gL_leastFaults_X2_leastFaults : GoodIn wsL_leastFaults (wsV RL 47 RX2 yX2_leastFaults wsX2_leastFaults) := goodIn_app (goodIn_of _ (by decide +kernel)) ggL_leastFaults_X2_leastFaults
set_option maxRecDepth 20000 in
theorem ggL_shift_X2_shift : GoodIn wsL_shift wsX2_shift := goodIn_ca (goodIn_ca (goodIn_ca (goodIn_r _ [8, 9, 10, 11, 12, 13, 7, 14, 15, 16, 17, 18, 19, 20, 21, 22, 23, 24, 25, 26, 27, 28, 29, 30, 31, 32, 33, 34, 35, 36, 37, 38, 39, 40, 41, 42, 43, 44, 45, 46, 47, 48, 49, 50, 51, 52, 53, 54, 55, 56, 57, 58, 59, 60, 61, 62, 63, 64, 65, 66, 67, 68, 69, 70, 71, 72, 73, 74, 75, 76, 77, 78, 79, 80, 81, 82, 83, 84, 85, 86, 87, 88, 89, 90] (by decide +kernel) (by decide +kernel)) (goodIn_sub (fun _ h => List.mem_cons_of_mem _ (List.mem_append_left _ (List.mem_append_left _ (List.mem_append_right _ h)))) (by decide +kernel))) (goodIn_sub (fun _ h => List.mem_cons_of_mem _ (List.mem_append_left _ (List.mem_append_right _ h))) (by decide +kernel))) (goodIn_sub (fun _ h => List.mem_cons_of_mem _ (List.mem_append_right _ h)) (by decide +kernel))
set_option maxRecDepth 20000 in
theorem gL_shift_X2_shift : GoodIn wsL_shift (wsV RL 50 RX2 yX2_shift wsX2_shift) := goodIn_app (goodIn_of _ (by decide +kernel)) ggL_shift_X2_shift
set_option maxRecDepth 20000 in
theorem ggL_dates_X2_dates : GoodIn wsL_dates wsX2_dates := goodIn_ca (goodIn_r _ [6, 7, 8, 9, 5, 10, 11, 12, 13, 14, 15, 16, 17, 18, 19, 20, 21, 22, 23, 24, 25, 26, 27, 28, 29, 30, 31, 32, 33, 34, 35, 36, 37, 38, 39, 40, 41, 42, 43, 44, 45, 46, 47, 48, 49, 50, 51, 52, 53, 54, 55, 56, 57, 58, 59, 60, 61, 62, 63, 64, 65, 66, 67, 68, 69, 70, 71, 72, 73, 74, 75, 76, 77, 78, 79, 80, 81] (by decide +kernel) (by decide +kernel)) (goodIn_sub (fun _ h => List.mem_cons_of_mem _ (List.mem_append_right _ h)) (by decide +kernel))
set_option maxRecDepth 20000 in
theorem gL_dates_X2_dates : GoodIn wsL_dates (wsV RL 53 RX2 yX2_dates wsX2_dates) := goodIn_app (goodIn_of _ (by decide +kernel)) ggL_dates_X2_dates
set_option maxRecDepth 20000 in
theorem ggL_missed_X2_missed : GoodIn wsL_missed wsX2_missed := goodIn_ca (goodIn_r _ [6, 7, 8, 9, 5, 10, 11, 12, 13, 14, 15, 16, 17, 18, 19, 20, 21, 22, 23, 24, 25, 26, 27, 28, 29, 30, 31, 32, 33, 34, 35, 36, 37, 38, 39, 40, 41, 42, 43, 44, 45, 46] (by decide +kernel) (by decide +kernel)) (goodIn_sub (fun _ h => List.mem_cons_of_mem _ (List.mem_append_right _ h)) (by decide +kernel))
set_option maxRecDepth 20000 in
theorem gL_missed_X2_missed : GoodIn wsL_missed (wsV RL 56 RX2 yX2_missed wsX2_missed) := goodIn_app (goodIn_of _ (by decide +kernel)) ggL_missed_X2_missed
set_option maxRecDepth 20000 in
theorem ggL_programme_X2_programme : GoodIn wsL_programme wsX2_programme := goodIn_ca (goodIn_ca (goodIn_r _ [6, 7, 8, 5, 9, 10, 11, 12, 13, 14, 15, 16, 17, 18, 19, 20, 21, 22, 23, 24, 25, 26, 27, 28, 29, 30, 31, 32, 33, 34, 35, 36, 37, 38, 39, 40, 41, 42, 43, 44, 45, 46, 47, 48, 49, 50, 51, 52, 53, 54, 55, 56, 57, 58, 59, 60, 61, 62, 63, 64, 65, 66, 67, 68, 69, 70, 71, 72, 73, 74, 75, 76, 77, 78, 79, 80, 81, 82, 83, 84, 85, 86, 87, 88, 89, 90, 91, 92, 93, 94, 95, 96, 97, 98, 99, 100, 101, 102, 103, 104, 105, 106, 107, 108, 109, 110, 111, 112, 113, 114, 115, 116, 117] (by decide +kernel) (by decide +kernel)) (goodIn_sub (fun _ h => List.mem_cons_of_mem _ (List.mem_append_left _ (List.mem_append_right _ h))) (by decide +kernel))) (goodIn_sub (fun _ h => List.mem_cons_of_mem _ (List.mem_append_right _ h)) (by decide +kernel))
set_option maxRecDepth 20000 in
theorem gL_programme_X2_programme : GoodIn wsL_programme (wsV RL 59 RX2 yX2_programme wsX2_programme) := goodIn_app (goodIn_of _ (by decide +kernel)) ggL_programme_X2_programme
set_option maxRecDepth 20000 in
theorem ggL_duration_X2_duration : GoodIn wsL_duration wsX2_duration := goodIn_ca (goodIn_ca (goodIn_r _ [6, 7, 8, 5, 9, 10, 11, 12, 13, 14, 15, 16, 17, 18, 19, 20, 21, 22, 23, 24, 25, 26, 27, 28, 29, 30, 31, 32, 33, 34, 35, 36, 37, 38, 39, 40, 41, 42, 43, 44, 45, 46, 47, 48, 49, 50, 51, 52, 53, 54, 55, 56, 57, 58, 59, 60, 61, 62, 63, 64, 65, 66, 67, 68, 69, 70, 71, 72, 73, 74, 75, 76, 77, 78, 79, 80, 81, 82, 83, 84, 85, 86, 87, 88, 89, 90, 91, 92, 93, 94, 95, 96, 97, 98, 99, 100, 101, 102, 103, 104, 105, 106, 107, 108, 109, 110, 111, 112, 113, 114, 115, 116, 117] (by decide +kernel) (by decide +kernel)) (goodIn_sub (fun _ h => List.mem_cons_of_mem _ (List.mem_append_left _ (List.mem_append_right _ h))) (by decide +kernel))) (goodIn_sub (fun _ h => List.mem_cons_of_mem _ (List.mem_append_right _ h)) (by decide +kernel))
set_option maxRecDepth 20000 in
theorem gL_duration_X2_duration : GoodIn wsL_duration (wsV RL 62 RX2 yX2_duration wsX2_duration) := goodIn_app (goodIn_of _ (by decide +kernel)) ggL_duration_X2_duration
set_option maxRecDepth 20000 in
theorem ggL_rehearse_X2_rehearse : GoodIn wsL_rehearse wsX2_rehearse := goodIn_ca (goodIn_ca (goodIn_r _ [7, 8, 9, 10, 11, 12, 6, 13, 14, 15, 16, 17, 18, 19, 20, 21, 22, 23, 24, 25, 26, 27, 28, 29, 30, 31, 32, 33, 34, 35, 36, 37, 38, 39, 40, 41, 42, 43, 44, 45, 46, 47, 48, 49, 50] (by decide +kernel) (by decide +kernel)) (goodIn_sub (fun _ h => List.mem_cons_of_mem _ (List.mem_append_left _ (List.mem_append_right _ h))) (by decide +kernel))) (goodIn_sub (fun _ h => List.mem_cons_of_mem _ (List.mem_append_right _ h)) (by decide +kernel))
set_option maxRecDepth 20000 in
theorem gL_rehearse_X2_rehearse : GoodIn wsL_rehearse (wsV RL 65 RX2 yX2_rehearse wsX2_rehearse) := goodIn_app (goodIn_of _ (by decide +kernel)) ggL_rehearse_X2_rehearse
set_option maxRecDepth 20000 in
theorem ggL_weakness_X2_weakness : GoodIn wsL_weakness wsX2_weakness := goodIn_ca (goodIn_r _ [6, 7, 8, 9, 5, 10, 11, 12, 13, 14, 15, 16, 17, 18, 19, 20, 21, 22, 23, 24, 25, 26, 27, 28, 29, 30, 31, 32, 33, 34, 35, 36, 37, 38, 39, 40, 41, 42] (by decide +kernel) (by decide +kernel)) (goodIn_sub (fun _ h => List.mem_cons_of_mem _ (List.mem_append_right _ h)) (by decide +kernel))
set_option maxRecDepth 20000 in
theorem gL_weakness_X2_weakness : GoodIn wsL_weakness (wsV RL 68 RX2 yX2_weakness wsX2_weakness) := goodIn_app (goodIn_of _ (by decide +kernel)) ggL_weakness_X2_weakness
set_option maxRecDepth 20000 in
theorem ggL_weakest_X2_weakest : GoodIn wsL_weakest wsX2_weakest := goodIn_ca (goodIn_r _ [6, 7, 8, 9, 5, 10, 11, 12, 13, 14, 15, 16, 17, 18, 19, 20, 21, 22, 23, 24, 25, 26, 27, 28, 29, 30, 31, 32, 33, 34, 35, 36, 37, 38, 39] (by decide +kernel) (by decide +kernel)) (goodIn_sub (fun _ h => List.mem_cons_of_mem _ (List.mem_append_right _ h)) (by decide +kernel))
set_option maxRecDepth 20000 in
theorem gL_weakest_X2_weakest : GoodIn wsL_weakest (wsV RL 71 RX2 yX2_weakest wsX2_weakest) := goodIn_app (goodIn_of _ (by decide +kernel)) ggL_weakest_X2_weakest
set_option maxRecDepth 20000 in
theorem ggL_law_X2_init : GoodIn wsL_law wsX2_init := goodIn_r _ [9, 10, 11, 12, 13, 14, 15, 16, 17, 18, 19, 20, 21, 22, 23, 24, 25, 26, 27, 28, 29, 30, 31, 32, 33, 34, 35, 589, 590, 591, 592, 593, 574, 575, 576, 577, 594, 595, 596, 597, 598] (by decide +kernel) (by decide +kernel)
set_option maxRecDepth 20000 in
theorem gL_law_X2_init : GoodIn wsL_law (wsX2_init) := ggL_law_X2_init
set_option maxRecDepth 20000 in
theorem ggL_law_X3_init : GoodIn wsL_law wsX3_init := goodIn_r _ [38, 39, 11, 12, 25, 40, 41, 42, 43, 44, 45, 46, 47, 578, 579, 580, 581, 582, 583, 584, 585, 586, 587, 588] (by decide +kernel) (by decide +kernel)
set_option maxRecDepth 20000 in
theorem gL_law_X3_init : GoodIn wsL_law (wsX3_init) := ggL_law_X3_init
set_option maxRecDepth 20000 in
theorem ggL_law_L_addSinger : GoodIn wsL_law wsL_addSinger := goodIn_ca (goodIn_ca (goodIn_r _ [51, 52, 53, 54, 55, 56, 2, 57, 58, 59, 60, 61, 16, 62, 63, 64, 65, 66, 67, 68, 69, 70, 15, 71, 72, 73, 74, 75, 76, 26, 27, 28, 574, 575, 576, 577, 589, 590, 591, 592, 593] (by decide +kernel) (by decide +kernel)) (goodIn_sub (fun _ h => List.mem_append_left _ (List.mem_append_left _ (List.mem_append_right _ h))) (by decide +kernel))) (goodIn_sub (fun _ h => List.mem_append_left _ (List.mem_append_right _ h)) (by decide +kernel))
set_option maxRecDepth 20000 in
theorem gL_law_L_addSinger : GoodIn wsL_law (va_wsS RL 78 yL_addSinger wsL_addSinger) := goodIn_app (goodIn_of _ (by decide +kernel)) ggL_law_L_addSinger
set_option maxRecDepth 20000 in
theorem ggL_law_X3_addSinger : GoodIn wsL_law wsX3_addSinger := goodIn_r _ [80, 81, 40, 41, 42, 82, 83, 5, 84, 85, 86, 87, 88, 89, 90, 91, 92, 93, 94, 95, 578, 579, 580, 581, 582, 583, 584, 585, 586, 587, 588] (by decide +kernel) (by decide +kernel)
set_option maxRecDepth 20000 in
theorem gL_law_X3_addSinger : GoodIn wsL_law (wsV RL 83 RX3 yX3_addSinger wsX3_addSinger) := goodIn_app (goodIn_of _ (by decide +kernel)) ggL_law_X3_addSinger
set_option maxRecDepth 20000 in
theorem ggL_law_X3_thrown : GoodIn wsL_law wsX3_thrown := goodIn_r _ [99, 95, 578, 579, 580, 581, 582, 583, 584, 585, 586, 587, 588] (by decide +kernel) (by decide +kernel)
set_option maxRecDepth 20000 in
theorem gL_law_X3_thrown : GoodIn wsL_law (wsV RL 84 RX3 yX3_thrown wsX3_thrown) := goodIn_app (goodIn_of _ (by decide +kernel)) ggL_law_X3_thrown
set_option maxRecDepth 20000 in
theorem ggL_law_L_tell : GoodIn wsL_law wsL_tell := goodIn_ca (goodIn_ca (goodIn_r _ [102, 103, 52, 104, 105, 106, 2, 107, 16, 108, 109, 110, 111, 112, 113, 114, 115, 116, 15, 117, 72, 118, 119, 120, 58, 59, 121, 122, 123, 124, 29, 125, 126, 127, 128, 574, 575, 576, 577, 589, 590, 591, 592, 593] (by decide +kernel) (by decide +kernel)) (goodIn_sub (fun _ h => List.mem_append_right _ h) (by decide +kernel))) (goodIn_sub (fun _ h => List.mem_append_left _ (List.mem_append_left _ (List.mem_append_right _ h))) (by decide +kernel))
set_option maxRecDepth 20000 in
theorem gL_law_L_tell : GoodIn wsL_law (va_wsS RL 88 yL_tell wsL_tell) := goodIn_app (goodIn_of _ (by decide +kernel)) ggL_law_L_tell
set_option maxRecDepth 20000 in
theorem ggL_law_X3_tell : GoodIn wsL_law wsX3_tell := goodIn_r _ [132, 43, 133, 134, 135, 5, 136, 81, 85, 86, 87, 137, 138, 139, 91, 92, 93, 94, 95, 140, 141, 142, 143, 578, 579, 580, 581, 582, 583, 584, 585, 586, 587, 588] (by decide +kernel) (by decide +kernel)
set_option maxRecDepth 20000 in
theorem gL_law_X3_tell : GoodIn wsL_law (wsV RL 91 RX3 yX3_tell wsX3_tell) := goodIn_app (goodIn_of _ (by decide +kernel)) ggL_law_X3_tell
set_option maxRecDepth 20000 in
theorem ggL_law_L_change : GoodIn wsL_law wsL_change := goodIn_ca (goodIn_ca (goodIn_r _ [146, 103, 52, 147, 148, 149, 2, 150, 16, 108, 109, 110, 111, 112, 113, 114, 115, 116, 15, 117, 72, 62, 63, 64, 58, 59, 151, 152, 153, 154, 26, 574, 575, 576, 577, 589, 590, 591, 592, 593] (by decide +kernel) (by decide +kernel)) (goodIn_sub (fun _ h => List.mem_append_right _ h) (by decide +kernel))) (goodIn_sub (fun _ h => List.mem_append_left _ (List.mem_append_left _ (List.mem_append_right _ h))) (by decide +kernel))
set_option maxRecDepth 20000 in
theorem gL_law_L_change : GoodIn wsL_law (va_wsS RL 92 yL_change wsL_change) := goodIn_app (goodIn_of _ (by decide +kernel)) ggL_law_L_change
set_option maxRecDepth 20000 in
theorem ggL_law_X3_change : GoodIn wsL_law wsX3_change := goodIn_r _ [158, 40, 133, 134, 135, 5, 136, 81, 85, 86, 87, 82, 83, 84, 91, 92, 93, 94, 95, 578, 579, 580, 581, 582, 583, 584, 585, 586, 587, 588] (by decide +kernel) (by decide +kernel)
set_option maxRecDepth 20000 in
theorem gL_law_X3_change : GoodIn wsL_law (wsV RL 95 RX3 yX3_change wsX3_change) := goodIn_app (goodIn_of _ (by decide +kernel)) ggL_law_X3_change
set_option maxRecDepth 20000 in
theorem ggL_law_L_range : GoodIn wsL_law wsL_range := goodIn_ca (goodIn_r _ [161, 52, 162, 163, 164, 2, 165, 16, 62, 63, 64, 58, 59, 118, 119, 120, 166, 167, 168, 15, 169, 72, 27, 170, 171, 172, 173, 174, 175, 176, 177, 26, 178, 122, 123, 124, 29, 179, 180, 181, 182, 28, 183, 184, 185, 574, 575, 576, 577, 589, 590, 591, 592, 593] (by decide +kernel) (by decide +kernel)) (goodIn_sub (fun _ h => List.mem_append_left _ (List.mem_append_left _ (List.mem_append_right _ h))) (by decide +kernel))
set_option maxRecDepth 20000 in
theorem gL_law_L_range : GoodIn wsL_law (va_wsS RL 96 yL_range wsL_range) := goodIn_app (goodIn_of _ (by decide +kernel)) ggL_law_L_range
set_option maxRecDepth 20000 in
theorem ggL_law_X3_range : GoodIn wsL_law wsX3_range := goodIn_r _ [189, 82, 83, 5, 84, 85, 86, 87, 137, 138, 139, 91, 92, 93, 94, 95, 190, 191, 192, 193, 81, 40, 41, 140, 141, 142, 143, 43, 194, 195, 196, 197, 42, 578, 579, 580, 581, 582, 583, 584, 585, 586, 587, 588] (by decide +kernel) (by decide +kernel)
set_option maxRecDepth 20000 in
theorem gL_law_X3_range : GoodIn wsL_law (wsV RL 98 RX3 yX3_range wsX3_range) := goodIn_app (goodIn_of _ (by decide +kernel)) ggL_law_X3_range
set_option maxRecDepth 20000 in
theorem ggL_law_L_chord : GoodIn wsL_law wsL_chord := goodIn_ca (goodIn_ca (goodIn_r _ [200, 52, 53, 201, 202, 203, 2, 204, 60, 61, 21, 65, 66, 67, 58, 59, 205, 206, 207, 20, 208, 209, 210, 211, 212, 213, 33, 214, 215, 216, 217, 218, 219, 172, 220, 35, 221, 222, 223, 224, 225, 226, 227, 228, 229, 230, 231, 232, 233, 234, 235, 574, 575, 576, 577, 594, 595, 596, 597, 598] (by decide +kernel) (by decide +kernel)) (goodIn_sub (fun _ h => List.mem_append_left _ (List.mem_append_right _ h)) (by decide +kernel))) (goodIn_sub (fun _ h => List.mem_append_left _ (List.mem_append_left _ (List.mem_append_right _ h))) (by decide +kernel))
set_option maxRecDepth 20000 in
theorem gL_law_L_chord : GoodIn wsL_law (va_wsS RL 99 yL_chord wsL_chord) := goodIn_app (goodIn_of _ (by decide +kernel)) ggL_law_L_chord
set_option maxRecDepth 20000 in
theorem ggL_law_X3_chord : GoodIn wsL_law wsX3_chord := goodIn_r _ [239, 45, 240, 44, 88, 89, 5, 90, 85, 86, 87, 91, 92, 93, 94, 95, 578, 579, 580, 581, 582, 583, 584, 585, 586, 587, 588] (by decide +kernel) (by decide +kernel)
set_option maxRecDepth 20000 in
theorem gL_law_X3_chord : GoodIn wsL_law (wsV RL 102 RX3 yX3_chord wsX3_chord) := goodIn_app (goodIn_of _ (by decide +kernel)) ggL_law_X3_chord
set_option maxRecDepth 20000 in
theorem ggL_law_L_addPiece : GoodIn wsL_law wsL_addPiece := goodIn_ca (goodIn_ca (goodIn_r _ [243, 52, 53, 244, 245, 246, 2, 247, 58, 59, 60, 61, 21, 248, 18, 17, 19, 20, 249, 250, 251, 252, 209, 253, 254, 255, 256, 257, 30, 31, 32, 11, 12, 25, 33, 34, 35, 574, 575, 576, 577, 594, 595, 596, 597, 598] (by decide +kernel) (by decide +kernel)) (goodIn_sub (fun _ h => List.mem_append_left _ (List.mem_append_left _ (List.mem_append_right _ h))) (by decide +kernel))) (goodIn_sub (fun _ h => List.mem_append_left _ (List.mem_append_right _ h)) (by decide +kernel))
set_option maxRecDepth 20000 in
theorem gL_law_L_addPiece : GoodIn wsL_law (va_wsS RL 103 yL_addPiece wsL_addPiece) := goodIn_app (goodIn_of _ (by decide +kernel)) ggL_law_L_addPiece
set_option maxRecDepth 20000 in
theorem ggL_law_X3_addPiece : GoodIn wsL_law wsX3_addPiece := goodIn_r _ [261, 45, 240, 46, 85, 86, 5, 87, 91, 92, 93, 94, 95, 578, 579, 580, 581, 582, 583, 584, 585, 586, 587, 588] (by decide +kernel) (by decide +kernel)
set_option maxRecDepth 20000 in
theorem gL_law_X3_addPiece : GoodIn wsL_law (wsV RL 106 RX3 yX3_addPiece wsX3_addPiece) := goodIn_app (goodIn_of _ (by decide +kernel)) ggL_law_X3_addPiece
set_option maxRecDepth 20000 in
theorem ggL_law_L_setTone : GoodIn wsL_law wsL_setTone := goodIn_ca (goodIn_ca (goodIn_ca (goodIn_r _ [264, 103, 52, 53, 265, 266, 267, 2, 268, 60, 61, 269, 270, 271, 272, 112, 113, 248, 18, 273, 274, 275, 276, 277, 278, 20, 279, 209, 62, 63, 64, 58, 59, 65, 66, 67, 280, 281, 282, 283, 225, 226, 227, 228, 33, 284, 285, 286, 287, 288, 289, 290, 291, 292, 214, 215, 216, 217, 218, 219, 172, 220, 35, 221, 222, 223, 224, 229, 230, 231, 232, 233, 234, 235, 574, 575, 576, 577, 594, 595, 596, 597, 598] (by decide +kernel) (by decide +kernel)) (goodIn_sub (fun _ h => List.mem_append_left _ (List.mem_append_right _ h)) (by decide +kernel))) (goodIn_sub (fun _ h => List.mem_append_right _ h) (by decide +kernel))) (goodIn_sub (fun _ h => List.mem_append_left _ (List.mem_append_left _ (List.mem_append_right _ h))) (by decide +kernel))
set_option maxRecDepth 20000 in
theorem gL_law_L_setTone : GoodIn wsL_law (va_wsS RL 107 yL_setTone wsL_setTone) := goodIn_app (goodIn_of _ (by decide +kernel)) ggL_law_L_setTone
set_option maxRecDepth 20000 in
theorem ggL_law_X3_setTone : GoodIn wsL_law wsX3_setTone := goodIn_r _ [296, 44, 82, 83, 5, 84, 85, 86, 87, 88, 89, 90, 297, 298, 299, 300, 45, 301, 302, 303, 304, 240, 305, 306, 307, 308, 309, 310, 311, 312, 313, 314, 315, 316, 91, 92, 93, 94, 95, 578, 579, 580, 581, 582, 583, 584, 585, 586, 587, 588] (by decide +kernel) (by decide +kernel)
set_option maxRecDepth 20000 in
theorem gL_law_X3_setTone : GoodIn wsL_law (wsV RL 109 RX3 yX3_setTone wsX3_setTone) := goodIn_app (goodIn_of _ (by decide +kernel)) ggL_law_X3_setTone
set_option maxRecDepth 20000 in
theorem ggL_law_L_faultsAt : GoodIn wsL_law wsL_faultsAt := goodIn_ca (goodIn_r _ [319, 103, 320, 321, 322, 2, 323, 269, 270, 271, 272, 112, 113, 248, 18, 273, 274, 275, 276, 277, 278, 20, 279, 209, 324, 325, 326, 327, 35, 574, 575, 576, 577, 594, 595, 596, 597, 598] (by decide +kernel) (by decide +kernel)) (goodIn_sub (fun _ h => List.mem_append_right _ h) (by decide +kernel))
set_option maxRecDepth 20000 in
theorem gL_law_L_faultsAt : GoodIn wsL_law (va_wsS RL 110 yL_faultsAt wsL_faultsAt) := goodIn_app (goodIn_of _ (by decide +kernel)) ggL_law_L_faultsAt
set_option maxRecDepth 20000 in
theorem ggL_law_X3_faultsAt : GoodIn wsL_law wsX3_faultsAt := goodIn_r _ [331, 297, 298, 299, 5, 300, 45, 301, 302, 303, 304, 240, 85, 86, 87, 91, 92, 93, 94, 95, 332, 333, 334, 335, 309, 310, 311, 312, 44, 336, 337, 338, 339, 578, 579, 580, 581, 582, 583, 584, 585, 586, 587, 588] (by decide +kernel) (by decide +kernel)
set_option maxRecDepth 20000 in
theorem gL_law_X3_faultsAt : GoodIn wsL_law (wsV RL 112 RX3 yX3_faultsAt wsX3_faultsAt) := goodIn_app (goodIn_of _ (by decide +kernel)) ggL_law_X3_faultsAt
set_option maxRecDepth 20000 in
theorem ggL_law_L_faults : GoodIn wsL_law wsL_faults := goodIn_ca (goodIn_r _ [342, 103, 343, 344, 345, 2, 346, 269, 270, 271, 272, 112, 113, 248, 18, 347, 348, 349, 20, 350, 209, 35, 574, 575, 576, 577, 594, 595, 596, 597, 598] (by decide +kernel) (by decide +kernel)) (goodIn_sub (fun _ h => List.mem_append_right _ h) (by decide +kernel))
set_option maxRecDepth 20000 in
theorem gL_law_L_faults : GoodIn wsL_law (va_wsS RL 113 yL_faults wsL_faults) := goodIn_app (goodIn_of _ (by decide +kernel)) ggL_law_L_faults
set_option maxRecDepth 20000 in
theorem ggL_law_X3_faults : GoodIn wsL_law wsX3_faults := goodIn_r _ [354, 301, 302, 303, 5, 304, 240, 85, 86, 87, 91, 92, 93, 94, 95, 355, 356, 357, 358, 45, 332, 333, 334, 335, 309, 310, 311, 312, 44, 336, 337, 338, 339, 578, 579, 580, 581, 582, 583, 584, 585, 586, 587, 588] (by decide +kernel) (by decide +kernel)
set_option maxRecDepth 20000 in
theorem gL_law_X3_faults : GoodIn wsL_law (wsV RL 115 RX3 yX3_faults wsX3_faults) := goodIn_app (goodIn_of _ (by decide +kernel)) ggL_law_X3_faults
set_option maxRecDepth 20000 in
theorem ggL_law_L_leastFaults : GoodIn wsL_law wsL_leastFaults := goodIn_ca (goodIn_ca (goodIn_r _ [361, 103, 52, 362, 363, 364, 2, 365, 112, 113, 269, 270, 271, 272, 248, 18, 273, 274, 275, 276, 277, 278, 20, 279, 209, 366, 367, 368, 369, 62, 63, 64, 58, 59, 370, 371, 372, 373, 374, 184, 172, 185, 225, 226, 227, 228, 33, 375, 281, 282, 283, 376, 348, 349, 350, 35, 377, 285, 286, 287, 378, 290, 291, 292, 214, 215, 216, 217, 218, 219, 220, 221, 222, 223, 224, 229, 230, 231, 232, 233, 234, 235, 574, 575, 576, 577, 594, 595, 596, 597, 598] (by decide +kernel) (by decide +kernel)) (goodIn_sub (fun _ h => List.mem_append_right _ h) (by decide +kernel))) (goodIn_sub (fun _ h => List.mem_append_left _ (List.mem_append_left _ (List.mem_append_right _ h))) (by decide +kernel))
set_option maxRecDepth 20000 in
theorem gL_law_L_leastFaults : GoodIn wsL_law (va_wsS RL 116 yL_leastFaults wsL_leastFaults) := goodIn_app (goodIn_of _ (by decide +kernel)) ggL_law_L_leastFaults
set_option maxRecDepth 20000 in
theorem ggL_law_X3_leastFaults : GoodIn wsL_law wsX3_leastFaults := goodIn_r _ [382, 45, 44, 297, 298, 299, 5, 300, 301, 302, 303, 304, 240, 85, 86, 87, 82, 83, 84, 91, 92, 93, 94, 95, 309, 310, 311, 312, 355, 356, 357, 358, 332, 333, 334, 335, 336, 337, 338, 339, 313, 314, 315, 316, 305, 306, 307, 308, 578, 579, 580, 581, 582, 583, 584, 585, 586, 587, 588] (by decide +kernel) (by decide +kernel)
set_option maxRecDepth 20000 in
theorem gL_law_X3_leastFaults : GoodIn wsL_law (wsV RL 118 RX3 yX3_leastFaults wsX3_leastFaults) := goodIn_app (goodIn_of _ (by decide +kernel)) ggL_law_X3_leastFaults
set_option maxRecDepth 20000 in
theorem ggL_law_L_shift : GoodIn wsL_law wsL_shift := goodIn_ca (goodIn_ca (goodIn_ca (goodIn_r _ [385, 103, 52, 53, 386, 387, 388, 2, 389, 60, 61, 269, 270, 271, 272, 112, 113, 248, 18, 118, 119, 120, 58, 59, 390, 391, 392, 393, 16, 394, 171, 172, 173, 395, 184, 185, 166, 167, 168, 15, 169, 72, 27, 170, 174, 175, 176, 177, 26, 178, 122, 123, 124, 29, 396, 397, 398, 20, 399, 209, 374, 225, 226, 227, 228, 33, 179, 180, 181, 182, 28, 183, 400, 401, 402, 403, 404, 574, 575, 576, 577, 589, 590, 591, 592, 593, 594, 595, 596, 597, 598] (by decide +kernel) (by decide +kernel)) (goodIn_sub (fun _ h => List.mem_append_left _ (List.mem_append_right _ h)) (by decide +kernel))) (goodIn_sub (fun _ h => List.mem_append_right _ h) (by decide +kernel))) (goodIn_sub (fun _ h => List.mem_append_left _ (List.mem_append_left _ (List.mem_append_right _ h))) (by decide +kernel))
set_option maxRecDepth 20000 in
theorem gL_law_L_shift : GoodIn wsL_law (va_wsS RL 119 yL_shift wsL_shift) := goodIn_app (goodIn_of _ (by decide +kernel)) ggL_law_L_shift
set_option maxRecDepth 20000 in
theorem ggL_law_X3_shift : GoodIn wsL_law wsX3_shift := goodIn_r _ [408, 301, 302, 303, 5, 304, 240, 85, 86, 87, 137, 138, 139, 409, 410, 411, 412, 413, 414, 415, 416, 45, 190, 191, 192, 193, 81, 40, 41, 140, 141, 142, 143, 43, 194, 195, 196, 197, 42, 309, 310, 311, 312, 44, 91, 92, 93, 94, 95, 578, 579, 580, 581, 582, 583, 584, 585, 586, 587, 588] (by decide +kernel) (by decide +kernel)
set_option maxRecDepth 20000 in
theorem gL_law_X3_shift : GoodIn wsL_law (wsV RL 121 RX3 yX3_shift wsX3_shift) := goodIn_app (goodIn_of _ (by decide +kernel)) ggL_law_X3_shift
set_option maxRecDepth 20000 in
theorem ggL_law_L_dates : GoodIn wsL_law wsL_dates := goodIn_ca (goodIn_r _ [419, 103, 420, 421, 422, 2, 423, 269, 270, 271, 272, 112, 113, 248, 18, 390, 391, 392, 393, 16, 394, 171, 172, 173, 395, 184, 185, 166, 167, 168, 15, 169, 72, 27, 170, 174, 175, 176, 177, 26, 178, 122, 123, 124, 29, 396, 397, 398, 20, 399, 209, 374, 225, 226, 227, 228, 33, 179, 180, 181, 182, 28, 183, 400, 401, 402, 403, 404, 574, 575, 576, 577, 589, 590, 591, 592, 593, 594, 595, 596, 597, 598] (by decide +kernel) (by decide +kernel)) (goodIn_sub (fun _ h => List.mem_append_right _ h) (by decide +kernel))
set_option maxRecDepth 20000 in
theorem gL_law_L_dates : GoodIn wsL_law (va_wsS RL 122 yL_dates wsL_dates) := goodIn_app (goodIn_of _ (by decide +kernel)) ggL_law_L_dates
set_option maxRecDepth 20000 in
theorem ggL_law_X3_dates : GoodIn wsL_law wsX3_dates := goodIn_r _ [427, 301, 302, 303, 5, 304, 240, 85, 86, 87, 91, 92, 93, 94, 95, 409, 410, 411, 412, 413, 414, 415, 416, 45, 190, 191, 192, 193, 81, 40, 41, 140, 141, 142, 143, 43, 194, 195, 196, 197, 42, 309, 310, 311, 312, 44, 578, 579, 580, 581, 582, 583, 584, 585, 586, 587, 588] (by decide +kernel) (by decide +kernel)
set_option maxRecDepth 20000 in
theorem gL_law_X3_dates : GoodIn wsL_law (wsV RL 124 RX3 yX3_dates wsX3_dates) := goodIn_app (goodIn_of _ (by decide +kernel)) ggL_law_X3_dates
set_option maxRecDepth 20000 in
theorem ggL_law_L_missed : GoodIn wsL_law wsL_missed := goodIn_ca (goodIn_r _ [430, 52, 431, 432, 433, 2, 434, 16, 118, 119, 120, 58, 59, 435, 436, 437, 15, 438, 72, 26, 178, 122, 123, 124, 29, 439, 180, 181, 182, 28, 183, 184, 172, 185, 174, 175, 176, 177, 574, 575, 576, 577, 589, 590, 591, 592, 593] (by decide +kernel) (by decide +kernel)) (goodIn_sub (fun _ h => List.mem_append_left _ (List.mem_append_left _ (List.mem_append_right _ h))) (by decide +kernel))
set_option maxRecDepth 20000 in
theorem gL_law_L_missed : GoodIn wsL_law (va_wsS RL 125 yL_missed wsL_missed) := goodIn_app (goodIn_of _ (by decide +kernel)) ggL_law_L_missed
set_option maxRecDepth 20000 in
theorem ggL_law_X3_missed : GoodIn wsL_law wsX3_missed := goodIn_r _ [443, 81, 40, 137, 138, 5, 139, 85, 86, 87, 91, 92, 93, 94, 95, 140, 141, 142, 143, 43, 190, 191, 192, 193, 41, 578, 579, 580, 581, 582, 583, 584, 585, 586, 587, 588] (by decide +kernel) (by decide +kernel)
set_option maxRecDepth 20000 in
theorem gL_law_X3_missed : GoodIn wsL_law (wsV RL 127 RX3 yX3_missed wsX3_missed) := goodIn_app (goodIn_of _ (by decide +kernel)) ggL_law_X3_missed
set_option maxRecDepth 20000 in
theorem ggL_law_L_programme : GoodIn wsL_law wsL_programme := goodIn_ca (goodIn_ca (goodIn_r _ [446, 52, 447, 448, 449, 2, 450, 118, 119, 120, 58, 59, 451, 452, 453, 454, 455, 456, 457, 248, 458, 459, 460, 461, 269, 270, 271, 272, 112, 113, 18, 390, 391, 392, 393, 16, 394, 171, 172, 173, 395, 184, 185, 166, 167, 168, 15, 169, 72, 27, 170, 174, 175, 176, 177, 26, 178, 122, 123, 124, 29, 396, 397, 398, 20, 399, 209, 374, 225, 226, 227, 228, 33, 179, 180, 181, 182, 28, 183, 400, 401, 402, 403, 404, 462, 463, 464, 465, 466, 467, 468, 469, 257, 470, 471, 472, 473, 474, 475, 476, 477, 478, 479, 480, 574, 575, 576, 577, 589, 590, 591, 592, 593, 594, 595, 596, 597, 598] (by decide +kernel) (by decide +kernel)) (goodIn_sub (fun _ h => List.mem_append_left _ (List.mem_append_left _ (List.mem_append_right _ h))) (by decide +kernel))) (goodIn_sub (fun _ h => List.mem_append_right _ h) (by decide +kernel))
set_option maxRecDepth 20000 in
theorem gL_law_L_programme : GoodIn wsL_law (va_wsS RL 128 yL_programme wsL_programme) := goodIn_app (goodIn_of _ (by decide +kernel)) ggL_law_L_programme
set_option maxRecDepth 20000 in
theorem ggL_law_X3_programme : GoodIn wsL_law wsX3_programme := goodIn_r _ [484, 485, 486, 487, 5, 488, 137, 138, 139, 85, 86, 87, 91, 92, 93, 94, 95, 489, 490, 491, 492, 240, 409, 410, 411, 412, 413, 414, 415, 416, 45, 190, 191, 192, 193, 81, 40, 41, 140, 141, 142, 143, 43, 194, 195, 196, 197, 42, 309, 310, 311, 312, 44, 493, 494, 495, 496, 46, 497, 498, 499, 500, 501, 502, 503, 578, 579, 580, 581, 582, 583, 584, 585, 586, 587, 588] (by decide +kernel) (by decide +kernel)
set_option maxRecDepth 20000 in
theorem gL_law_X3_programme : GoodIn wsL_law (wsV RL 130 RX3 yX3_programme wsX3_programme) := goodIn_app (goodIn_of _ (by decide +kernel)) ggL_law_X3_programme
set_option maxRecDepth 20000 in
theorem ggL_law_L_duration : GoodIn wsL_law wsL_duration := goodIn_ca (goodIn_ca (goodIn_r _ [506, 52, 507, 508, 509, 2, 510, 118, 119, 120, 58, 59, 451, 452, 453, 454, 455, 456, 457, 248, 458, 459, 460, 461, 269, 270, 271, 272, 112, 113, 18, 390, 391, 392, 393, 16, 394, 171, 172, 173, 395, 184, 185, 166, 167, 168, 15, 169, 72, 27, 170, 174, 175, 176, 177, 26, 178, 122, 123, 124, 29, 396, 397, 398, 20, 399, 209, 374, 225, 226, 227, 228, 33, 179, 180, 181, 182, 28, 183, 400, 401, 402, 403, 404, 462, 463, 464, 465, 466, 467, 468, 469, 257, 470, 471, 472, 473, 474, 475, 476, 477, 478, 479, 480, 574, 575, 576, 577, 589, 590, 591, 592, 593, 594, 595, 596, 597, 598] (by decide +kernel) (by decide +kernel)) (goodIn_sub (fun _ h => List.mem_append_left _ (List.mem_append_left _ (List.mem_append_right _ h))) (by decide +kernel))) (goodIn_sub (fun _ h => List.mem_append_right _ h) (by decide +kernel))
set_option maxRecDepth 20000 in
theorem gL_law_L_duration : GoodIn wsL_law (va_wsS RL 131 yL_duration wsL_duration) := goodIn_app (goodIn_of _ (by decide +kernel)) ggL_law_L_duration
set_option maxRecDepth 20000 in
theorem ggL_law_X3_duration : GoodIn wsL_law wsX3_duration := goodIn_r _ [514, 485, 486, 487, 5, 488, 137, 138, 139, 85, 86, 87, 91, 92, 93, 94, 95, 489, 490, 491, 492, 240, 409, 410, 411, 412, 413, 414, 415, 416, 45, 190, 191, 192, 193, 81, 40, 41, 140, 141, 142, 143, 43, 194, 195, 196, 197, 42, 309, 310, 311, 312, 44, 493, 494, 495, 496, 46, 497, 498, 499, 500, 501, 502, 503, 578, 579, 580, 581, 582, 583, 584, 585, 586, 587, 588] (by decide +kernel) (by decide +kernel)
set_option maxRecDepth 20000 in
theorem gL_law_X3_duration : GoodIn wsL_law (wsV RL 133 RX3 yX3_duration wsX3_duration) := goodIn_app (goodIn_of _ (by decide +kernel)) ggL_law_X3_duration
set_option maxRecDepth 20000 in
theorem ggL_law_L_rehearse : GoodIn wsL_law wsL_rehearse := goodIn_ca (goodIn_ca (goodIn_r _ [517, 103, 52, 518, 519, 520, 2, 521, 58, 59, 269, 270, 271, 272, 112, 113, 248, 18, 522, 523, 524, 20, 525, 34, 526, 527, 528, 529, 209, 530, 531, 532, 533, 35, 404, 171, 172, 173, 534, 535, 536, 537, 574, 575, 576, 577, 594, 595, 596, 597, 598] (by decide +kernel) (by decide +kernel)) (goodIn_sub (fun _ h => List.mem_append_left _ (List.mem_append_left _ (List.mem_append_right _ h))) (by decide +kernel))) (goodIn_sub (fun _ h => List.mem_append_right _ h) (by decide +kernel))
set_option maxRecDepth 20000 in
theorem gL_law_L_rehearse : GoodIn wsL_law (va_wsS RL 134 yL_rehearse wsL_rehearse) := goodIn_app (goodIn_of _ (by decide +kernel)) ggL_law_L_rehearse
set_option maxRecDepth 20000 in
theorem ggL_law_X3_rehearse : GoodIn wsL_law wsX3_rehearse := goodIn_r _ [541, 47, 45, 301, 302, 303, 5, 304, 240, 85, 86, 87, 91, 92, 93, 94, 95, 542, 543, 544, 545, 546, 547, 548, 549, 332, 333, 334, 335, 309, 310, 311, 312, 44, 336, 337, 338, 339, 578, 579, 580, 581, 582, 583, 584, 585, 586, 587, 588] (by decide +kernel) (by decide +kernel)
set_option maxRecDepth 20000 in
theorem gL_law_X3_rehearse : GoodIn wsL_law (wsV RL 136 RX3 yX3_rehearse wsX3_rehearse) := goodIn_app (goodIn_of _ (by decide +kernel)) ggL_law_X3_rehearse
set_option maxRecDepth 20000 in
theorem ggL_law_L_weakness : GoodIn wsL_law wsL_weakness := goodIn_ca (goodIn_r _ [552, 103, 553, 554, 555, 2, 556, 269, 270, 271, 272, 112, 113, 248, 18, 273, 274, 275, 276, 277, 278, 20, 279, 209, 557, 531, 532, 533, 35, 34, 404, 171, 172, 173, 574, 575, 576, 577, 594, 595, 596, 597, 598] (by decide +kernel) (by decide +kernel)) (goodIn_sub (fun _ h => List.mem_append_right _ h) (by decide +kernel))
end
section
set_option maxRecDepth 20000 in
theorem gL_law_L_weakness : GoodIn wsL_law (va_wsS RL 137 yL_weakness wsL_weakness) := goodIn_app (goodIn_of _ (by decide +kernel)) ggL_law_L_weakness
set_option maxRecDepth 20000 in
theorem ggL_law_X3_weakness : GoodIn wsL_law wsX3_weakness := goodIn_r _ [561, 297, 298, 299, 5, 300, 45, 301, 302, 303, 304, 240, 85, 86, 87, 91, 92, 93, 94, 95, 546, 547, 548, 549, 47, 332, 333, 334, 335, 309, 310, 311, 312, 44, 336, 337, 338, 339, 578, 579, 580, 581, 582, 583, 584, 585, 586, 587, 588] (by decide +kernel) (by decide +kernel)
set_option maxRecDepth 20000 in
theorem gL_law_X3_weakness : GoodIn wsL_law (wsV RL 139 RX3 yX3_weakness wsX3_weakness) := goodIn_app (goodIn_of _ (by decide +kernel)) ggL_law_X3_weakness
set_option maxRecDepth 20000 in
theorem ggL_law_L_weakest : GoodIn wsL_law wsL_weakest := goodIn_ca (goodIn_r _ [564, 103, 565, 566, 567, 2, 568, 269, 270, 271, 272, 112, 113, 248, 18, 569, 527, 528, 20, 529, 209, 530, 531, 532, 533, 35, 34, 404, 171, 172, 173, 574, 575, 576, 577, 594, 595, 596, 597, 598] (by decide +kernel) (by decide +kernel)) (goodIn_sub (fun _ h => List.mem_append_right _ h) (by decide +kernel))
set_option maxRecDepth 20000 in
theorem gL_law_L_weakest : GoodIn wsL_law (va_wsS RL 140 yL_weakest wsL_weakest) := goodIn_app (goodIn_of _ (by decide +kernel)) ggL_law_L_weakest
set_option maxRecDepth 20000 in
theorem ggL_law_X3_weakest : GoodIn wsL_law wsX3_weakest := goodIn_r _ [573, 301, 302, 303, 5, 304, 240, 85, 86, 87, 91, 92, 93, 94, 95, 542, 543, 544, 545, 45, 546, 547, 548, 549, 47, 332, 333, 334, 335, 309, 310, 311, 312, 44, 336, 337, 338, 339, 578, 579, 580, 581, 582, 583, 584, 585, 586, 587, 588] (by decide +kernel) (by decide +kernel)
set_option maxRecDepth 20000 in
theorem gL_law_X3_weakest : GoodIn wsL_law (wsV RL 142 RX3 yX3_weakest wsX3_weakest) := goodIn_app (goodIn_of _ (by decide +kernel)) ggL_law_X3_weakest
abbrev vwCl : List vw_C := [(RX0, TX0, 5), (RX1, TX1, 5), (RX2, TX2, 4), (RX3, TX3, 11)]
end
section
theorem dX0_init_0 : decode cX0_init 0 = .ok (.aload_n 0, 1) := by decide +kernel
theorem dX0_init_1 : decode cX0_init 1 = .ok (.invokespecial 3, 3) := by decide +kernel
theorem dX0_init_4 : decode cX0_init 4 = .ok (.aload_n 0, 1) := by decide +kernel
theorem dX0_init_5 : decode cX0_init 5 = .ok (.bipush 64, 2) := by decide +kernel
theorem dX0_init_7 : decode cX0_init 7 = .ok (.newarray .int, 2) := by decide +kernel
theorem dX0_init_9 : decode cX0_init 9 = .ok (.putfield 9, 3) := by decide +kernel
theorem dX0_init_12 : decode cX0_init 12 = .ok (.aload_n 0, 1) := by decide +kernel
theorem dX0_init_13 : decode cX0_init 13 = .ok (.bipush 16, 2) := by decide +kernel
theorem dX0_init_15 : decode cX0_init 15 = .ok (.newarray .int, 2) := by decide +kernel
theorem dX0_init_17 : decode cX0_init 17 = .ok (.putfield 15, 3) := by decide +kernel
theorem dX0_init_20 : decode cX0_init 20 = .ok (.aload_n 0, 1) := by decide +kernel
theorem dX0_init_21 : decode cX0_init 21 = .ok (.bipush 16, 2) := by decide +kernel
theorem dX0_init_23 : decode cX0_init 23 = .ok (.newarray .int, 2) := by decide +kernel
theorem dX0_init_25 : decode cX0_init 25 = .ok (.putfield 18, 3) := by decide +kernel
theorem dX0_init_28 : decode cX0_init 28 = .ok (.return_, 1) := by decide +kernel
theorem dX0_isEmpty_0 : decode cX0_isEmpty 0 = .ok (.aload_n 0, 1) := by decide +kernel
theorem dX0_isEmpty_1 : decode cX0_isEmpty 1 = .ok (.getfield 21, 3) := by decide +kernel
theorem dX0_isEmpty_4 : decode cX0_isEmpty 4 = .ok (.ifCond .ne 7, 3) := by decide +kernel
theorem dX0_isEmpty_7 : decode cX0_isEmpty 7 = .ok (.iconst 1, 1) := by decide +kernel
theorem dX0_isEmpty_8 : decode cX0_isEmpty 8 = .ok (.goto 4, 3) := by decide +kernel
theorem dX0_isEmpty_11 : decode cX0_isEmpty 11 = .ok (.iconst 0, 1) := by decide +kernel
theorem dX0_isEmpty_12 : decode cX0_isEmpty 12 = .ok (.ireturn, 1) := by decide +kernel
theorem dX0_isFull_0 : decode cX0_isFull 0 = .ok (.aload_n 0, 1) := by decide +kernel
theorem dX0_isFull_1 : decode cX0_isFull 1 = .ok (.getfield 21, 3) := by decide +kernel
theorem dX0_isFull_4 : decode cX0_isFull 4 = .ok (.bipush 16, 2) := by decide +kernel
theorem dX0_isFull_6 : decode cX0_isFull 6 = .ok (.if_icmp .lt 7, 3) := by decide +kernel
theorem dX0_isFull_9 : decode cX0_isFull 9 = .ok (.iconst 1, 1) := by decide +kernel
theorem dX0_isFull_10 : decode cX0_isFull 10 = .ok (.goto 4, 3) := by decide +kernel
theorem dX0_isFull_13 : decode cX0_isFull 13 = .ok (.iconst 0, 1) := by decide +kernel
theorem dX0_isFull_14 : decode cX0_isFull 14 = .ok (.ireturn, 1) := by decide +kernel
theorem dX0_has_0 : decode cX0_has 0 = .ok (.iload_n 1, 1) := by decide +kernel
theorem dX0_has_1 : decode cX0_has 1 = .ok (.ifCond .lt 15, 3) := by decide +kernel
theorem dX0_has_4 : decode cX0_has 4 = .ok (.iload_n 1, 1) := by decide +kernel
theorem dX0_has_5 : decode cX0_has 5 = .ok (.aload_n 0, 1) := by decide +kernel
theorem dX0_has_6 : decode cX0_has 6 = .ok (.getfield 21, 3) := by decide +kernel
theorem dX0_has_9 : decode cX0_has 9 = .ok (.if_icmp .ge 7, 3) := by decide +kernel
theorem dX0_has_12 : decode cX0_has 12 = .ok (.iconst 1, 1) := by decide +kernel
theorem dX0_has_13 : decode cX0_has 13 = .ok (.goto 4, 3) := by decide +kernel
theorem dX0_has_16 : decode cX0_has 16 = .ok (.iconst 0, 1) := by decide +kernel
theorem dX0_has_17 : decode cX0_has 17 = .ok (.ireturn, 1) := by decide +kernel
theorem dX0_isLast_0 : decode cX0_isLast 0 = .ok (.iload_n 1, 1) := by decide +kernel
theorem dX0_isLast_1 : decode cX0_isLast 1 = .ok (.aload_n 0, 1) := by decide +kernel
theorem dX0_isLast_2 : decode cX0_isLast 2 = .ok (.getfield 21, 3) := by decide +kernel
theorem dX0_isLast_5 : decode cX0_isLast 5 = .ok (.iconst 1, 1) := by decide +kernel
theorem dX0_isLast_6 : decode cX0_isLast 6 = .ok (.isub, 1) := by decide +kernel
theorem dX0_isLast_7 : decode cX0_isLast 7 = .ok (.if_icmp .ne 7, 3) := by decide +kernel
theorem dX0_isLast_10 : decode cX0_isLast 10 = .ok (.iconst 1, 1) := by decide +kernel
theorem dX0_isLast_11 : decode cX0_isLast 11 = .ok (.goto 4, 3) := by decide +kernel
theorem dX0_isLast_14 : decode cX0_isLast 14 = .ok (.iconst 0, 1) := by decide +kernel
theorem dX0_isLast_15 : decode cX0_isLast 15 = .ok (.ireturn, 1) := by decide +kernel
theorem dX0_length_0 : decode cX0_length 0 = .ok (.aload_n 0, 1) := by decide +kernel
theorem dX0_length_1 : decode cX0_length 1 = .ok (.getfield 25, 3) := by decide +kernel
theorem dX0_length_4 : decode cX0_length 4 = .ok (.ireturn, 1) := by decide +kernel
theorem dX0_putLength_0 : decode cX0_putLength 0 = .ok (.aload_n 0, 1) := by decide +kernel
theorem dX0_putLength_1 : decode cX0_putLength 1 = .ok (.iload_n 1, 1) := by decide +kernel
theorem dX0_putLength_2 : decode cX0_putLength 2 = .ok (.putfield 25, 3) := by decide +kernel
theorem dX0_putLength_5 : decode cX0_putLength 5 = .ok (.return_, 1) := by decide +kernel
theorem dX0_append_0 : decode cX0_append 0 = .ok (.iconst 4, 1) := by decide +kernel
theorem dX0_append_1 : decode cX0_append 1 = .ok (.aload_n 0, 1) := by decide +kernel
theorem dX0_append_2 : decode cX0_append 2 = .ok (.getfield 21, 3) := by decide +kernel
theorem dX0_append_5 : decode cX0_append 5 = .ok (.imul, 1) := by decide +kernel
theorem dX0_append_6 : decode cX0_append 6 = .ok (.istore 5, 2) := by decide +kernel
theorem dX0_append_8 : decode cX0_append 8 = .ok (.aload_n 0, 1) := by decide +kernel
theorem dX0_append_9 : decode cX0_append 9 = .ok (.getfield 9, 3) := by decide +kernel
theorem dX0_append_12 : decode cX0_append 12 = .ok (.iload 5, 2) := by decide +kernel
theorem dX0_append_14 : decode cX0_append 14 = .ok (.iload_n 1, 1) := by decide +kernel
theorem dX0_append_15 : decode cX0_append 15 = .ok (.iastore, 1) := by decide +kernel
theorem dX0_append_16 : decode cX0_append 16 = .ok (.aload_n 0, 1) := by decide +kernel
theorem dX0_append_17 : decode cX0_append 17 = .ok (.getfield 9, 3) := by decide +kernel
theorem dX0_append_20 : decode cX0_append 20 = .ok (.iload 5, 2) := by decide +kernel
theorem dX0_append_22 : decode cX0_append 22 = .ok (.iconst 1, 1) := by decide +kernel
theorem dX0_append_23 : decode cX0_append 23 = .ok (.iadd, 1) := by decide +kernel
theorem dX0_append_24 : decode cX0_append 24 = .ok (.iload_n 2, 1) := by decide +kernel
theorem dX0_append_25 : decode cX0_append 25 = .ok (.iastore, 1) := by decide +kernel
theorem dX0_append_26 : decode cX0_append 26 = .ok (.aload_n 0, 1) := by decide +kernel
theorem dX0_append_27 : decode cX0_append 27 = .ok (.getfield 9, 3) := by decide +kernel
theorem dX0_append_30 : decode cX0_append 30 = .ok (.iload 5, 2) := by decide +kernel
theorem dX0_append_32 : decode cX0_append 32 = .ok (.iconst 2, 1) := by decide +kernel
theorem dX0_append_33 : decode cX0_append 33 = .ok (.iadd, 1) := by decide +kernel
theorem dX0_append_34 : decode cX0_append 34 = .ok (.iload_n 3, 1) := by decide +kernel
theorem dX0_append_35 : decode cX0_append 35 = .ok (.iastore, 1) := by decide +kernel
theorem dX0_append_36 : decode cX0_append 36 = .ok (.aload_n 0, 1) := by decide +kernel
theorem dX0_append_37 : decode cX0_append 37 = .ok (.getfield 9, 3) := by decide +kernel
theorem dX0_append_40 : decode cX0_append 40 = .ok (.iload 5, 2) := by decide +kernel
theorem dX0_append_42 : decode cX0_append 42 = .ok (.iconst 3, 1) := by decide +kernel
theorem dX0_append_43 : decode cX0_append 43 = .ok (.iadd, 1) := by decide +kernel
theorem dX0_append_44 : decode cX0_append 44 = .ok (.iload 4, 2) := by decide +kernel
theorem dX0_append_46 : decode cX0_append 46 = .ok (.iastore, 1) := by decide +kernel
theorem dX0_append_47 : decode cX0_append 47 = .ok (.aload_n 0, 1) := by decide +kernel
theorem dX0_append_48 : decode cX0_append 48 = .ok (.dup, 1) := by decide +kernel
theorem dX0_append_49 : decode cX0_append 49 = .ok (.getfield 21, 3) := by decide +kernel
theorem dX0_append_52 : decode cX0_append 52 = .ok (.iconst 1, 1) := by decide +kernel
theorem dX0_append_53 : decode cX0_append 53 = .ok (.iadd, 1) := by decide +kernel
theorem dX0_append_54 : decode cX0_append 54 = .ok (.putfield 21, 3) := by decide +kernel
theorem dX0_append_57 : decode cX0_append 57 = .ok (.aload_n 0, 1) := by decide +kernel
theorem dX0_append_58 : decode cX0_append 58 = .ok (.aload_n 0, 1) := by decide +kernel
theorem dX0_append_59 : decode cX0_append 59 = .ok (.getfield 21, 3) := by decide +kernel
theorem dX0_append_62 : decode cX0_append 62 = .ok (.iconst 1, 1) := by decide +kernel
theorem dX0_append_63 : decode cX0_append 63 = .ok (.isub, 1) := by decide +kernel
theorem dX0_append_64 : decode cX0_append 64 = .ok (.invokevirtual 28, 3) := by decide +kernel
theorem dX0_append_67 : decode cX0_append 67 = .ok (.aload_n 0, 1) := by decide +kernel
theorem dX0_append_68 : decode cX0_append 68 = .ok (.getfield 21, 3) := by decide +kernel
theorem dX0_append_71 : decode cX0_append 71 = .ok (.ireturn, 1) := by decide +kernel
theorem dX0_toneAt_0 : decode cX0_toneAt 0 = .ok (.aload_n 0, 1) := by decide +kernel
theorem dX0_toneAt_1 : decode cX0_toneAt 1 = .ok (.getfield 9, 3) := by decide +kernel
theorem dX0_toneAt_4 : decode cX0_toneAt 4 = .ok (.iconst 4, 1) := by decide +kernel
theorem dX0_toneAt_5 : decode cX0_toneAt 5 = .ok (.iload_n 1, 1) := by decide +kernel
theorem dX0_toneAt_6 : decode cX0_toneAt 6 = .ok (.imul, 1) := by decide +kernel
theorem dX0_toneAt_7 : decode cX0_toneAt 7 = .ok (.iload_n 2, 1) := by decide +kernel
theorem dX0_toneAt_8 : decode cX0_toneAt 8 = .ok (.iadd, 1) := by decide +kernel
theorem dX0_toneAt_9 : decode cX0_toneAt 9 = .ok (.iaload, 1) := by decide +kernel
theorem dX0_toneAt_10 : decode cX0_toneAt 10 = .ok (.ireturn, 1) := by decide +kernel
theorem dX0_putTone_0 : decode cX0_putTone 0 = .ok (.aload_n 0, 1) := by decide +kernel
theorem dX0_putTone_1 : decode cX0_putTone 1 = .ok (.getfield 9, 3) := by decide +kernel
theorem dX0_putTone_4 : decode cX0_putTone 4 = .ok (.iconst 4, 1) := by decide +kernel
theorem dX0_putTone_5 : decode cX0_putTone 5 = .ok (.iload_n 1, 1) := by decide +kernel
theorem dX0_putTone_6 : decode cX0_putTone 6 = .ok (.imul, 1) := by decide +kernel
theorem dX0_putTone_7 : decode cX0_putTone 7 = .ok (.iload_n 2, 1) := by decide +kernel
theorem dX0_putTone_8 : decode cX0_putTone 8 = .ok (.iadd, 1) := by decide +kernel
theorem dX0_putTone_9 : decode cX0_putTone 9 = .ok (.iload_n 3, 1) := by decide +kernel
theorem dX0_putTone_10 : decode cX0_putTone 10 = .ok (.iastore, 1) := by decide +kernel
theorem dX0_putTone_11 : decode cX0_putTone 11 = .ok (.aload_n 0, 1) := by decide +kernel
theorem dX0_putTone_12 : decode cX0_putTone 12 = .ok (.iload_n 1, 1) := by decide +kernel
theorem dX0_putTone_13 : decode cX0_putTone 13 = .ok (.invokevirtual 28, 3) := by decide +kernel
theorem dX0_putTone_16 : decode cX0_putTone 16 = .ok (.aload_n 0, 1) := by decide +kernel
theorem dX0_putTone_17 : decode cX0_putTone 17 = .ok (.iload_n 1, 1) := by decide +kernel
theorem dX0_putTone_18 : decode cX0_putTone 18 = .ok (.iconst 1, 1) := by decide +kernel
theorem dX0_putTone_19 : decode cX0_putTone 19 = .ok (.iadd, 1) := by decide +kernel
theorem dX0_putTone_20 : decode cX0_putTone 20 = .ok (.invokevirtual 28, 3) := by decide +kernel
theorem dX0_putTone_23 : decode cX0_putTone 23 = .ok (.return_, 1) := by decide +kernel
theorem dX0_ceiling_0 : decode cX0_ceiling 0 = .ok (.iload_n 2, 1) := by decide +kernel
theorem dX0_ceiling_1 : decode cX0_ceiling 1 = .ok (.ifCond .le 14, 3) := by decide +kernel
theorem dX0_ceiling_4 : decode cX0_ceiling 4 = .ok (.aload_n 0, 1) := by decide +kernel
theorem dX0_ceiling_5 : decode cX0_ceiling 5 = .ok (.iload_n 1, 1) := by decide +kernel
theorem dX0_ceiling_6 : decode cX0_ceiling 6 = .ok (.iload_n 2, 1) := by decide +kernel
theorem dX0_ceiling_7 : decode cX0_ceiling 7 = .ok (.iconst 1, 1) := by decide +kernel
theorem dX0_ceiling_8 : decode cX0_ceiling 8 = .ok (.isub, 1) := by decide +kernel
theorem dX0_ceiling_9 : decode cX0_ceiling 9 = .ok (.invokevirtual 32, 3) := by decide +kernel
theorem dX0_ceiling_12 : decode cX0_ceiling 12 = .ok (.goto 5, 3) := by decide +kernel
theorem dX0_ceiling_15 : decode cX0_ceiling 15 = .ok (.bipush 60, 2) := by decide +kernel
theorem dX0_ceiling_17 : decode cX0_ceiling 17 = .ok (.ireturn, 1) := by decide +kernel
theorem dX0_floor_0 : decode cX0_floor 0 = .ok (.iload_n 2, 1) := by decide +kernel
theorem dX0_floor_1 : decode cX0_floor 1 = .ok (.iconst 3, 1) := by decide +kernel
theorem dX0_floor_2 : decode cX0_floor 2 = .ok (.if_icmp .ge 14, 3) := by decide +kernel
theorem dX0_floor_5 : decode cX0_floor 5 = .ok (.aload_n 0, 1) := by decide +kernel
theorem dX0_floor_6 : decode cX0_floor 6 = .ok (.iload_n 1, 1) := by decide +kernel
theorem dX0_floor_7 : decode cX0_floor 7 = .ok (.iload_n 2, 1) := by decide +kernel
theorem dX0_floor_8 : decode cX0_floor 8 = .ok (.iconst 1, 1) := by decide +kernel
theorem dX0_floor_9 : decode cX0_floor 9 = .ok (.iadd, 1) := by decide +kernel
theorem dX0_floor_10 : decode cX0_floor 10 = .ok (.invokevirtual 32, 3) := by decide +kernel
theorem dX0_floor_13 : decode cX0_floor 13 = .ok (.goto 4, 3) := by decide +kernel
theorem dX0_floor_16 : decode cX0_floor 16 = .ok (.iconst 0, 1) := by decide +kernel
theorem dX0_floor_17 : decode cX0_floor 17 = .ok (.ireturn, 1) := by decide +kernel
theorem dX0_lowestTone_0 : decode cX0_lowestTone 0 = .ok (.bipush 60, 2) := by decide +kernel
theorem dX0_lowestTone_2 : decode cX0_lowestTone 2 = .ok (.istore_n 2, 1) := by decide +kernel
theorem dX0_lowestTone_3 : decode cX0_lowestTone 3 = .ok (.iconst 0, 1) := by decide +kernel
theorem dX0_lowestTone_4 : decode cX0_lowestTone 4 = .ok (.istore_n 3, 1) := by decide +kernel
theorem dX0_lowestTone_5 : decode cX0_lowestTone 5 = .ok (.iload_n 3, 1) := by decide +kernel
theorem dX0_lowestTone_6 : decode cX0_lowestTone 6 = .ok (.aload_n 0, 1) := by decide +kernel
theorem dX0_lowestTone_7 : decode cX0_lowestTone 7 = .ok (.getfield 21, 3) := by decide +kernel
theorem dX0_lowestTone_10 : decode cX0_lowestTone 10 = .ok (.if_icmp .ge 20, 3) := by decide +kernel
theorem dX0_lowestTone_13 : decode cX0_lowestTone 13 = .ok (.iload_n 2, 1) := by decide +kernel
theorem dX0_lowestTone_14 : decode cX0_lowestTone 14 = .ok (.aload_n 0, 1) := by decide +kernel
theorem dX0_lowestTone_15 : decode cX0_lowestTone 15 = .ok (.iload_n 3, 1) := by decide +kernel
theorem dX0_lowestTone_16 : decode cX0_lowestTone 16 = .ok (.iload_n 1, 1) := by decide +kernel
theorem dX0_lowestTone_17 : decode cX0_lowestTone 17 = .ok (.invokevirtual 32, 3) := by decide +kernel
theorem dX0_lowestTone_20 : decode cX0_lowestTone 20 = .ok (.invokestatic 36, 3) := by decide +kernel
theorem dX0_lowestTone_23 : decode cX0_lowestTone 23 = .ok (.istore_n 2, 1) := by decide +kernel
theorem dX0_lowestTone_24 : decode cX0_lowestTone 24 = .ok (.iinc 3 1, 3) := by decide +kernel
theorem dX0_lowestTone_27 : decode cX0_lowestTone 27 = .ok (.goto (-22), 3) := by decide +kernel
theorem dX0_lowestTone_30 : decode cX0_lowestTone 30 = .ok (.iload_n 2, 1) := by decide +kernel
theorem dX0_lowestTone_31 : decode cX0_lowestTone 31 = .ok (.ireturn, 1) := by decide +kernel
theorem dX0_highestTone_0 : decode cX0_highestTone 0 = .ok (.iconst 0, 1) := by decide +kernel
theorem dX0_highestTone_1 : decode cX0_highestTone 1 = .ok (.istore_n 2, 1) := by decide +kernel
theorem dX0_highestTone_2 : decode cX0_highestTone 2 = .ok (.iconst 0, 1) := by decide +kernel
theorem dX0_highestTone_3 : decode cX0_highestTone 3 = .ok (.istore_n 3, 1) := by decide +kernel
theorem dX0_highestTone_4 : decode cX0_highestTone 4 = .ok (.iload_n 3, 1) := by decide +kernel
theorem dX0_highestTone_5 : decode cX0_highestTone 5 = .ok (.aload_n 0, 1) := by decide +kernel
theorem dX0_highestTone_6 : decode cX0_highestTone 6 = .ok (.getfield 21, 3) := by decide +kernel
theorem dX0_highestTone_9 : decode cX0_highestTone 9 = .ok (.if_icmp .ge 20, 3) := by decide +kernel
theorem dX0_highestTone_12 : decode cX0_highestTone 12 = .ok (.iload_n 2, 1) := by decide +kernel
theorem dX0_highestTone_13 : decode cX0_highestTone 13 = .ok (.aload_n 0, 1) := by decide +kernel
theorem dX0_highestTone_14 : decode cX0_highestTone 14 = .ok (.iload_n 3, 1) := by decide +kernel
theorem dX0_highestTone_15 : decode cX0_highestTone 15 = .ok (.iload_n 1, 1) := by decide +kernel
theorem dX0_highestTone_16 : decode cX0_highestTone 16 = .ok (.invokevirtual 32, 3) := by decide +kernel
theorem dX0_highestTone_19 : decode cX0_highestTone 19 = .ok (.invokestatic 41, 3) := by decide +kernel
theorem dX0_highestTone_22 : decode cX0_highestTone 22 = .ok (.istore_n 2, 1) := by decide +kernel
theorem dX0_highestTone_23 : decode cX0_highestTone 23 = .ok (.iinc 3 1, 3) := by decide +kernel
theorem dX0_highestTone_26 : decode cX0_highestTone 26 = .ok (.goto (-22), 3) := by decide +kernel
theorem dX0_highestTone_29 : decode cX0_highestTone 29 = .ok (.iload_n 2, 1) := by decide +kernel
theorem dX0_highestTone_30 : decode cX0_highestTone 30 = .ok (.ireturn, 1) := by decide +kernel
theorem dX0_faultsInto_0 : decode cX0_faultsInto 0 = .ok (.aload_n 0, 1) := by decide +kernel
theorem dX0_faultsInto_1 : decode cX0_faultsInto 1 = .ok (.getfield 18, 3) := by decide +kernel
theorem dX0_faultsInto_4 : decode cX0_faultsInto 4 = .ok (.iload_n 1, 1) := by decide +kernel
theorem dX0_faultsInto_5 : decode cX0_faultsInto 5 = .ok (.iaload, 1) := by decide +kernel
theorem dX0_faultsInto_6 : decode cX0_faultsInto 6 = .ok (.ireturn, 1) := by decide +kernel
theorem dX0_faultSum_0 : decode cX0_faultSum 0 = .ok (.iconst 0, 1) := by decide +kernel
theorem dX0_faultSum_1 : decode cX0_faultSum 1 = .ok (.istore_n 1, 1) := by decide +kernel
theorem dX0_faultSum_2 : decode cX0_faultSum 2 = .ok (.iconst 1, 1) := by decide +kernel
theorem dX0_faultSum_3 : decode cX0_faultSum 3 = .ok (.istore_n 2, 1) := by decide +kernel
theorem dX0_faultSum_4 : decode cX0_faultSum 4 = .ok (.iload_n 2, 1) := by decide +kernel
theorem dX0_faultSum_5 : decode cX0_faultSum 5 = .ok (.aload_n 0, 1) := by decide +kernel
theorem dX0_faultSum_6 : decode cX0_faultSum 6 = .ok (.getfield 21, 3) := by decide +kernel
theorem dX0_faultSum_9 : decode cX0_faultSum 9 = .ok (.if_icmp .ge 18, 3) := by decide +kernel
theorem dX0_faultSum_12 : decode cX0_faultSum 12 = .ok (.iload_n 1, 1) := by decide +kernel
theorem dX0_faultSum_13 : decode cX0_faultSum 13 = .ok (.aload_n 0, 1) := by decide +kernel
theorem dX0_faultSum_14 : decode cX0_faultSum 14 = .ok (.getfield 18, 3) := by decide +kernel
theorem dX0_faultSum_17 : decode cX0_faultSum 17 = .ok (.iload_n 2, 1) := by decide +kernel
theorem dX0_faultSum_18 : decode cX0_faultSum 18 = .ok (.iaload, 1) := by decide +kernel
theorem dX0_faultSum_19 : decode cX0_faultSum 19 = .ok (.iadd, 1) := by decide +kernel
theorem dX0_faultSum_20 : decode cX0_faultSum 20 = .ok (.istore_n 1, 1) := by decide +kernel
theorem dX0_faultSum_21 : decode cX0_faultSum 21 = .ok (.iinc 2 1, 3) := by decide +kernel
theorem dX0_faultSum_24 : decode cX0_faultSum 24 = .ok (.goto (-20), 3) := by decide +kernel
theorem dX0_faultSum_27 : decode cX0_faultSum 27 = .ok (.iload_n 1, 1) := by decide +kernel
theorem dX0_faultSum_28 : decode cX0_faultSum 28 = .ok (.ireturn, 1) := by decide +kernel
theorem dX0_leastFaultSum_0 : decode cX0_leastFaultSum 0 = .ok (.aload_n 0, 1) := by decide +kernel
theorem dX0_leastFaultSum_1 : decode cX0_leastFaultSum 1 = .ok (.iload_n 1, 1) := by decide +kernel
theorem dX0_leastFaultSum_2 : decode cX0_leastFaultSum 2 = .ok (.iload_n 2, 1) := by decide +kernel
theorem dX0_leastFaultSum_3 : decode cX0_leastFaultSum 3 = .ok (.invokevirtual 32, 3) := by decide +kernel
theorem dX0_leastFaultSum_6 : decode cX0_leastFaultSum 6 = .ok (.istore_n 3, 1) := by decide +kernel
theorem dX0_leastFaultSum_7 : decode cX0_leastFaultSum 7 = .ok (.aload_n 0, 1) := by decide +kernel
theorem dX0_leastFaultSum_8 : decode cX0_leastFaultSum 8 = .ok (.iload_n 1, 1) := by decide +kernel
theorem dX0_leastFaultSum_9 : decode cX0_leastFaultSum 9 = .ok (.iload_n 2, 1) := by decide +kernel
theorem dX0_leastFaultSum_10 : decode cX0_leastFaultSum 10 = .ok (.invokevirtual 44, 3) := by decide +kernel
theorem dX0_leastFaultSum_13 : decode cX0_leastFaultSum 13 = .ok (.istore 4, 2) := by decide +kernel
theorem dX0_leastFaultSum_15 : decode cX0_leastFaultSum 15 = .ok (.aload_n 0, 1) := by decide +kernel
theorem dX0_leastFaultSum_16 : decode cX0_leastFaultSum 16 = .ok (.invokevirtual 47, 3) := by decide +kernel
theorem dX0_leastFaultSum_19 : decode cX0_leastFaultSum 19 = .ok (.istore 5, 2) := by decide +kernel
theorem dX0_leastFaultSum_21 : decode cX0_leastFaultSum 21 = .ok (.aload_n 0, 1) := by decide +kernel
theorem dX0_leastFaultSum_22 : decode cX0_leastFaultSum 22 = .ok (.iload_n 1, 1) := by decide +kernel
theorem dX0_leastFaultSum_23 : decode cX0_leastFaultSum 23 = .ok (.iload_n 2, 1) := by decide +kernel
theorem dX0_leastFaultSum_24 : decode cX0_leastFaultSum 24 = .ok (.invokevirtual 51, 3) := by decide +kernel
theorem dX0_leastFaultSum_27 : decode cX0_leastFaultSum 27 = .ok (.istore 6, 2) := by decide +kernel
theorem dX0_leastFaultSum_29 : decode cX0_leastFaultSum 29 = .ok (.iload 6, 2) := by decide +kernel
theorem dX0_leastFaultSum_31 : decode cX0_leastFaultSum 31 = .ok (.iload 4, 2) := by decide +kernel
theorem dX0_leastFaultSum_33 : decode cX0_leastFaultSum 33 = .ok (.if_icmp .gt 28, 3) := by decide +kernel
theorem dX0_leastFaultSum_36 : decode cX0_leastFaultSum 36 = .ok (.aload_n 0, 1) := by decide +kernel
theorem dX0_leastFaultSum_37 : decode cX0_leastFaultSum 37 = .ok (.iload_n 1, 1) := by decide +kernel
theorem dX0_leastFaultSum_38 : decode cX0_leastFaultSum 38 = .ok (.iload_n 2, 1) := by decide +kernel
theorem dX0_leastFaultSum_39 : decode cX0_leastFaultSum 39 = .ok (.iload 6, 2) := by decide +kernel
theorem dX0_leastFaultSum_41 : decode cX0_leastFaultSum 41 = .ok (.invokevirtual 54, 3) := by decide +kernel
theorem dX0_leastFaultSum_44 : decode cX0_leastFaultSum 44 = .ok (.iload 5, 2) := by decide +kernel
theorem dX0_leastFaultSum_46 : decode cX0_leastFaultSum 46 = .ok (.aload_n 0, 1) := by decide +kernel
theorem dX0_leastFaultSum_47 : decode cX0_leastFaultSum 47 = .ok (.invokevirtual 47, 3) := by decide +kernel
theorem dX0_leastFaultSum_50 : decode cX0_leastFaultSum 50 = .ok (.invokestatic 36, 3) := by decide +kernel
theorem dX0_leastFaultSum_53 : decode cX0_leastFaultSum 53 = .ok (.istore 5, 2) := by decide +kernel
theorem dX0_leastFaultSum_55 : decode cX0_leastFaultSum 55 = .ok (.iinc 6 1, 3) := by decide +kernel
theorem dX0_leastFaultSum_58 : decode cX0_leastFaultSum 58 = .ok (.goto (-29), 3) := by decide +kernel
theorem dX0_leastFaultSum_61 : decode cX0_leastFaultSum 61 = .ok (.aload_n 0, 1) := by decide +kernel
theorem dX0_leastFaultSum_62 : decode cX0_leastFaultSum 62 = .ok (.iload_n 1, 1) := by decide +kernel
theorem dX0_leastFaultSum_63 : decode cX0_leastFaultSum 63 = .ok (.iload_n 2, 1) := by decide +kernel
theorem dX0_leastFaultSum_64 : decode cX0_leastFaultSum 64 = .ok (.iload_n 3, 1) := by decide +kernel
theorem dX0_leastFaultSum_65 : decode cX0_leastFaultSum 65 = .ok (.invokevirtual 54, 3) := by decide +kernel
theorem dX0_leastFaultSum_68 : decode cX0_leastFaultSum 68 = .ok (.iload 5, 2) := by decide +kernel
theorem dX0_leastFaultSum_70 : decode cX0_leastFaultSum 70 = .ok (.ireturn, 1) := by decide +kernel
theorem dX0_weaknessOf_0 : decode cX0_weaknessOf 0 = .ok (.iconst 0, 1) := by decide +kernel
theorem dX0_weaknessOf_1 : decode cX0_weaknessOf 1 = .ok (.bipush 10, 2) := by decide +kernel
theorem dX0_weaknessOf_3 : decode cX0_weaknessOf 3 = .ok (.iconst 5, 1) := by decide +kernel
theorem dX0_weaknessOf_4 : decode cX0_weaknessOf 4 = .ok (.aload_n 0, 1) := by decide +kernel
theorem dX0_weaknessOf_5 : decode cX0_weaknessOf 5 = .ok (.getfield 18, 3) := by decide +kernel
theorem dX0_weaknessOf_8 : decode cX0_weaknessOf 8 = .ok (.iload_n 1, 1) := by decide +kernel
theorem dX0_weaknessOf_9 : decode cX0_weaknessOf 9 = .ok (.iaload, 1) := by decide +kernel
theorem dX0_weaknessOf_10 : decode cX0_weaknessOf 10 = .ok (.imul, 1) := by decide +kernel
theorem dX0_weaknessOf_11 : decode cX0_weaknessOf 11 = .ok (.iadd, 1) := by decide +kernel
theorem dX0_weaknessOf_12 : decode cX0_weaknessOf 12 = .ok (.aload_n 0, 1) := by decide +kernel
theorem dX0_weaknessOf_13 : decode cX0_weaknessOf 13 = .ok (.getfield 15, 3) := by decide +kernel
theorem dX0_weaknessOf_16 : decode cX0_weaknessOf 16 = .ok (.iload_n 1, 1) := by decide +kernel
theorem dX0_weaknessOf_17 : decode cX0_weaknessOf 17 = .ok (.iaload, 1) := by decide +kernel
theorem dX0_weaknessOf_18 : decode cX0_weaknessOf 18 = .ok (.isub, 1) := by decide +kernel
theorem dX0_weaknessOf_19 : decode cX0_weaknessOf 19 = .ok (.invokestatic 41, 3) := by decide +kernel
theorem dX0_weaknessOf_22 : decode cX0_weaknessOf 22 = .ok (.ireturn, 1) := by decide +kernel
theorem dX0_weaknessSum_0 : decode cX0_weaknessSum 0 = .ok (.iconst 0, 1) := by decide +kernel
theorem dX0_weaknessSum_1 : decode cX0_weaknessSum 1 = .ok (.istore_n 1, 1) := by decide +kernel
theorem dX0_weaknessSum_2 : decode cX0_weaknessSum 2 = .ok (.iconst 0, 1) := by decide +kernel
theorem dX0_weaknessSum_3 : decode cX0_weaknessSum 3 = .ok (.istore_n 2, 1) := by decide +kernel
theorem dX0_weaknessSum_4 : decode cX0_weaknessSum 4 = .ok (.iload_n 2, 1) := by decide +kernel
theorem dX0_weaknessSum_5 : decode cX0_weaknessSum 5 = .ok (.aload_n 0, 1) := by decide +kernel
theorem dX0_weaknessSum_6 : decode cX0_weaknessSum 6 = .ok (.getfield 21, 3) := by decide +kernel
theorem dX0_weaknessSum_9 : decode cX0_weaknessSum 9 = .ok (.if_icmp .ge 17, 3) := by decide +kernel
theorem dX0_weaknessSum_12 : decode cX0_weaknessSum 12 = .ok (.iload_n 1, 1) := by decide +kernel
theorem dX0_weaknessSum_13 : decode cX0_weaknessSum 13 = .ok (.aload_n 0, 1) := by decide +kernel
theorem dX0_weaknessSum_14 : decode cX0_weaknessSum 14 = .ok (.iload_n 2, 1) := by decide +kernel
theorem dX0_weaknessSum_15 : decode cX0_weaknessSum 15 = .ok (.invokevirtual 58, 3) := by decide +kernel
theorem dX0_weaknessSum_18 : decode cX0_weaknessSum 18 = .ok (.iadd, 1) := by decide +kernel
theorem dX0_weaknessSum_19 : decode cX0_weaknessSum 19 = .ok (.istore_n 1, 1) := by decide +kernel
theorem dX0_weaknessSum_20 : decode cX0_weaknessSum 20 = .ok (.iinc 2 1, 3) := by decide +kernel
theorem dX0_weaknessSum_23 : decode cX0_weaknessSum 23 = .ok (.goto (-19), 3) := by decide +kernel
theorem dX0_weaknessSum_26 : decode cX0_weaknessSum 26 = .ok (.iload_n 1, 1) := by decide +kernel
theorem dX0_weaknessSum_27 : decode cX0_weaknessSum 27 = .ok (.ireturn, 1) := by decide +kernel
theorem dX0_weakestChord_0 : decode cX0_weakestChord 0 = .ok (.iconst 0, 1) := by decide +kernel
theorem dX0_weakestChord_1 : decode cX0_weakestChord 1 = .ok (.istore_n 1, 1) := by decide +kernel
theorem dX0_weakestChord_2 : decode cX0_weakestChord 2 = .ok (.iconst 1, 1) := by decide +kernel
theorem dX0_weakestChord_3 : decode cX0_weakestChord 3 = .ok (.istore_n 2, 1) := by decide +kernel
theorem dX0_weakestChord_4 : decode cX0_weakestChord 4 = .ok (.iload_n 2, 1) := by decide +kernel
theorem dX0_weakestChord_5 : decode cX0_weakestChord 5 = .ok (.aload_n 0, 1) := by decide +kernel
theorem dX0_weakestChord_6 : decode cX0_weakestChord 6 = .ok (.getfield 21, 3) := by decide +kernel
theorem dX0_weakestChord_9 : decode cX0_weakestChord 9 = .ok (.if_icmp .ge 24, 3) := by decide +kernel
theorem dX0_weakestChord_12 : decode cX0_weakestChord 12 = .ok (.aload_n 0, 1) := by decide +kernel
theorem dX0_weakestChord_13 : decode cX0_weakestChord 13 = .ok (.iload_n 2, 1) := by decide +kernel
theorem dX0_weakestChord_14 : decode cX0_weakestChord 14 = .ok (.invokevirtual 58, 3) := by decide +kernel
theorem dX0_weakestChord_17 : decode cX0_weakestChord 17 = .ok (.aload_n 0, 1) := by decide +kernel
theorem dX0_weakestChord_18 : decode cX0_weakestChord 18 = .ok (.iload_n 1, 1) := by decide +kernel
theorem dX0_weakestChord_19 : decode cX0_weakestChord 19 = .ok (.invokevirtual 58, 3) := by decide +kernel
theorem dX0_weakestChord_22 : decode cX0_weakestChord 22 = .ok (.if_icmp .le 5, 3) := by decide +kernel
theorem dX0_weakestChord_25 : decode cX0_weakestChord 25 = .ok (.iload_n 2, 1) := by decide +kernel
theorem dX0_weakestChord_26 : decode cX0_weakestChord 26 = .ok (.istore_n 1, 1) := by decide +kernel
theorem dX0_weakestChord_27 : decode cX0_weakestChord 27 = .ok (.iinc 2 1, 3) := by decide +kernel
theorem dX0_weakestChord_30 : decode cX0_weakestChord 30 = .ok (.goto (-26), 3) := by decide +kernel
theorem dX0_weakestChord_33 : decode cX0_weakestChord 33 = .ok (.iload_n 1, 1) := by decide +kernel
theorem dX0_weakestChord_34 : decode cX0_weakestChord 34 = .ok (.ireturn, 1) := by decide +kernel
theorem dX0_practiseWeakest_0 : decode cX0_practiseWeakest 0 = .ok (.aload_n 0, 1) := by decide +kernel
theorem dX0_practiseWeakest_1 : decode cX0_practiseWeakest 1 = .ok (.getfield 15, 3) := by decide +kernel
theorem dX0_practiseWeakest_4 : decode cX0_practiseWeakest 4 = .ok (.aload_n 0, 1) := by decide +kernel
theorem dX0_practiseWeakest_5 : decode cX0_practiseWeakest 5 = .ok (.invokevirtual 62, 3) := by decide +kernel
theorem dX0_practiseWeakest_8 : decode cX0_practiseWeakest 8 = .ok (.dup2, 1) := by decide +kernel
theorem dX0_practiseWeakest_9 : decode cX0_practiseWeakest 9 = .ok (.iaload, 1) := by decide +kernel
theorem dX0_practiseWeakest_10 : decode cX0_practiseWeakest 10 = .ok (.iconst 4, 1) := by decide +kernel
theorem dX0_practiseWeakest_11 : decode cX0_practiseWeakest 11 = .ok (.iadd, 1) := by decide +kernel
theorem dX0_practiseWeakest_12 : decode cX0_practiseWeakest 12 = .ok (.iastore, 1) := by decide +kernel
theorem dX0_practiseWeakest_13 : decode cX0_practiseWeakest 13 = .ok (.return_, 1) := by decide +kernel
theorem dX0_countMoveFaults_0 : decode cX0_countMoveFaults 0 = .ok (.iload_n 1, 1) := by decide +kernel
theorem dX0_countMoveFaults_1 : decode cX0_countMoveFaults 1 = .ok (.iconst 1, 1) := by decide +kernel
theorem dX0_countMoveFaults_2 : decode cX0_countMoveFaults 2 = .ok (.if_icmp .lt 11, 3) := by decide +kernel
theorem dX0_countMoveFaults_5 : decode cX0_countMoveFaults 5 = .ok (.iload_n 1, 1) := by decide +kernel
theorem dX0_countMoveFaults_6 : decode cX0_countMoveFaults 6 = .ok (.aload_n 0, 1) := by decide +kernel
theorem dX0_countMoveFaults_7 : decode cX0_countMoveFaults 7 = .ok (.getfield 21, 3) := by decide +kernel
theorem dX0_countMoveFaults_10 : decode cX0_countMoveFaults 10 = .ok (.if_icmp .lt 4, 3) := by decide +kernel
theorem dX0_countMoveFaults_13 : decode cX0_countMoveFaults 13 = .ok (.return_, 1) := by decide +kernel
theorem dX0_countMoveFaults_14 : decode cX0_countMoveFaults 14 = .ok (.iconst 0, 1) := by decide +kernel
theorem dX0_countMoveFaults_15 : decode cX0_countMoveFaults 15 = .ok (.istore_n 2, 1) := by decide +kernel
theorem dX0_countMoveFaults_16 : decode cX0_countMoveFaults 16 = .ok (.iconst 0, 1) := by decide +kernel
theorem dX0_countMoveFaults_17 : decode cX0_countMoveFaults 17 = .ok (.istore_n 3, 1) := by decide +kernel
theorem dX0_countMoveFaults_18 : decode cX0_countMoveFaults 18 = .ok (.iload_n 3, 1) := by decide +kernel
theorem dX0_countMoveFaults_19 : decode cX0_countMoveFaults 19 = .ok (.iconst 4, 1) := by decide +kernel
theorem dX0_countMoveFaults_20 : decode cX0_countMoveFaults 20 = .ok (.if_icmp .ge 57, 3) := by decide +kernel
theorem dX0_countMoveFaults_23 : decode cX0_countMoveFaults 23 = .ok (.aload_n 0, 1) := by decide +kernel
theorem dX0_countMoveFaults_24 : decode cX0_countMoveFaults 24 = .ok (.iload_n 1, 1) := by decide +kernel
theorem dX0_countMoveFaults_25 : decode cX0_countMoveFaults 25 = .ok (.iload_n 3, 1) := by decide +kernel
theorem dX0_countMoveFaults_26 : decode cX0_countMoveFaults 26 = .ok (.invokevirtual 65, 3) := by decide +kernel
theorem dX0_countMoveFaults_29 : decode cX0_countMoveFaults 29 = .ok (.invokestatic 68, 3) := by decide +kernel
theorem dX0_countMoveFaults_32 : decode cX0_countMoveFaults 32 = .ok (.bipush 7, 2) := by decide +kernel
theorem dX0_countMoveFaults_34 : decode cX0_countMoveFaults 34 = .ok (.if_icmp .le 6, 3) := by decide +kernel
theorem dX0_countMoveFaults_37 : decode cX0_countMoveFaults 37 = .ok (.iinc 2 1, 3) := by decide +kernel
theorem dX0_countMoveFaults_40 : decode cX0_countMoveFaults 40 = .ok (.iload_n 3, 1) := by decide +kernel
theorem dX0_countMoveFaults_41 : decode cX0_countMoveFaults 41 = .ok (.iconst 1, 1) := by decide +kernel
theorem dX0_countMoveFaults_42 : decode cX0_countMoveFaults 42 = .ok (.iadd, 1) := by decide +kernel
theorem dX0_countMoveFaults_43 : decode cX0_countMoveFaults 43 = .ok (.istore 4, 2) := by decide +kernel
theorem dX0_countMoveFaults_45 : decode cX0_countMoveFaults 45 = .ok (.iload 4, 2) := by decide +kernel
theorem dX0_countMoveFaults_47 : decode cX0_countMoveFaults 47 = .ok (.iconst 4, 1) := by decide +kernel
theorem dX0_countMoveFaults_48 : decode cX0_countMoveFaults 48 = .ok (.if_icmp .ge 23, 3) := by decide +kernel
theorem dX0_countMoveFaults_51 : decode cX0_countMoveFaults 51 = .ok (.aload_n 0, 1) := by decide +kernel
theorem dX0_countMoveFaults_52 : decode cX0_countMoveFaults 52 = .ok (.iload_n 1, 1) := by decide +kernel
theorem dX0_countMoveFaults_53 : decode cX0_countMoveFaults 53 = .ok (.iload_n 3, 1) := by decide +kernel
theorem dX0_countMoveFaults_54 : decode cX0_countMoveFaults 54 = .ok (.iload 4, 2) := by decide +kernel
theorem dX0_countMoveFaults_56 : decode cX0_countMoveFaults 56 = .ok (.invokevirtual 71, 3) := by decide +kernel
theorem dX0_countMoveFaults_59 : decode cX0_countMoveFaults 59 = .ok (.ifCond .eq 6, 3) := by decide +kernel
theorem dX0_countMoveFaults_62 : decode cX0_countMoveFaults 62 = .ok (.iinc 2 3, 3) := by decide +kernel
theorem dX0_countMoveFaults_65 : decode cX0_countMoveFaults 65 = .ok (.iinc 4 1, 3) := by decide +kernel
theorem dX0_countMoveFaults_68 : decode cX0_countMoveFaults 68 = .ok (.goto (-23), 3) := by decide +kernel
theorem dX0_countMoveFaults_71 : decode cX0_countMoveFaults 71 = .ok (.iinc 3 1, 3) := by decide +kernel
theorem dX0_countMoveFaults_74 : decode cX0_countMoveFaults 74 = .ok (.goto (-56), 3) := by decide +kernel
theorem dX0_countMoveFaults_77 : decode cX0_countMoveFaults 77 = .ok (.aload_n 0, 1) := by decide +kernel
theorem dX0_countMoveFaults_78 : decode cX0_countMoveFaults 78 = .ok (.getfield 18, 3) := by decide +kernel
theorem dX0_countMoveFaults_81 : decode cX0_countMoveFaults 81 = .ok (.iload_n 1, 1) := by decide +kernel
theorem dX0_countMoveFaults_82 : decode cX0_countMoveFaults 82 = .ok (.iload_n 2, 1) := by decide +kernel
theorem dX0_countMoveFaults_83 : decode cX0_countMoveFaults 83 = .ok (.iastore, 1) := by decide +kernel
theorem dX0_countMoveFaults_84 : decode cX0_countMoveFaults 84 = .ok (.return_, 1) := by decide +kernel
theorem dX0_stepInto_0 : decode cX0_stepInto 0 = .ok (.aload_n 0, 1) := by decide +kernel
theorem dX0_stepInto_1 : decode cX0_stepInto 1 = .ok (.iload_n 1, 1) := by decide +kernel
theorem dX0_stepInto_2 : decode cX0_stepInto 2 = .ok (.iload_n 2, 1) := by decide +kernel
theorem dX0_stepInto_3 : decode cX0_stepInto 3 = .ok (.invokevirtual 32, 3) := by decide +kernel
theorem dX0_stepInto_6 : decode cX0_stepInto 6 = .ok (.aload_n 0, 1) := by decide +kernel
theorem dX0_stepInto_7 : decode cX0_stepInto 7 = .ok (.iload_n 1, 1) := by decide +kernel
theorem dX0_stepInto_8 : decode cX0_stepInto 8 = .ok (.iconst 1, 1) := by decide +kernel
theorem dX0_stepInto_9 : decode cX0_stepInto 9 = .ok (.isub, 1) := by decide +kernel
theorem dX0_stepInto_10 : decode cX0_stepInto 10 = .ok (.iload_n 2, 1) := by decide +kernel
theorem dX0_stepInto_11 : decode cX0_stepInto 11 = .ok (.invokevirtual 32, 3) := by decide +kernel
theorem dX0_stepInto_14 : decode cX0_stepInto 14 = .ok (.isub, 1) := by decide +kernel
theorem dX0_stepInto_15 : decode cX0_stepInto 15 = .ok (.ireturn, 1) := by decide +kernel
theorem dX0_isParallel_0 : decode cX0_isParallel 0 = .ok (.aload_n 0, 1) := by decide +kernel
theorem dX0_isParallel_1 : decode cX0_isParallel 1 = .ok (.iload_n 1, 1) := by decide +kernel
theorem dX0_isParallel_2 : decode cX0_isParallel 2 = .ok (.iload_n 2, 1) := by decide +kernel
theorem dX0_isParallel_3 : decode cX0_isParallel 3 = .ok (.invokevirtual 65, 3) := by decide +kernel
theorem dX0_isParallel_6 : decode cX0_isParallel 6 = .ok (.istore 4, 2) := by decide +kernel
theorem dX0_isParallel_8 : decode cX0_isParallel 8 = .ok (.iload 4, 2) := by decide +kernel
theorem dX0_isParallel_10 : decode cX0_isParallel 10 = .ok (.ifCond .eq 37, 3) := by decide +kernel
theorem dX0_isParallel_13 : decode cX0_isParallel 13 = .ok (.iload 4, 2) := by decide +kernel
theorem dX0_isParallel_15 : decode cX0_isParallel 15 = .ok (.aload_n 0, 1) := by decide +kernel
theorem dX0_isParallel_16 : decode cX0_isParallel 16 = .ok (.iload_n 1, 1) := by decide +kernel
theorem dX0_isParallel_17 : decode cX0_isParallel 17 = .ok (.iload_n 3, 1) := by decide +kernel
theorem dX0_isParallel_18 : decode cX0_isParallel 18 = .ok (.invokevirtual 65, 3) := by decide +kernel
theorem dX0_isParallel_21 : decode cX0_isParallel 21 = .ok (.if_icmp .ne 26, 3) := by decide +kernel
theorem dX0_isParallel_24 : decode cX0_isParallel 24 = .ok (.aload_n 0, 1) := by decide +kernel
theorem dX0_isParallel_25 : decode cX0_isParallel 25 = .ok (.iload_n 1, 1) := by decide +kernel
theorem dX0_isParallel_26 : decode cX0_isParallel 26 = .ok (.iload_n 2, 1) := by decide +kernel
theorem dX0_isParallel_27 : decode cX0_isParallel 27 = .ok (.invokevirtual 32, 3) := by decide +kernel
theorem dX0_isParallel_30 : decode cX0_isParallel 30 = .ok (.aload_n 0, 1) := by decide +kernel
theorem dX0_isParallel_31 : decode cX0_isParallel 31 = .ok (.iload_n 1, 1) := by decide +kernel
theorem dX0_isParallel_32 : decode cX0_isParallel 32 = .ok (.iload_n 3, 1) := by decide +kernel
theorem dX0_isParallel_33 : decode cX0_isParallel 33 = .ok (.invokevirtual 32, 3) := by decide +kernel
theorem dX0_isParallel_36 : decode cX0_isParallel 36 = .ok (.isub, 1) := by decide +kernel
theorem dX0_isParallel_37 : decode cX0_isParallel 37 = .ok (.invokestatic 75, 3) := by decide +kernel
theorem dX0_isParallel_40 : decode cX0_isParallel 40 = .ok (.ifCond .eq 7, 3) := by decide +kernel
theorem dX0_isParallel_43 : decode cX0_isParallel 43 = .ok (.iconst 1, 1) := by decide +kernel
theorem dX0_isParallel_44 : decode cX0_isParallel 44 = .ok (.goto 4, 3) := by decide +kernel
theorem dX0_isParallel_47 : decode cX0_isParallel 47 = .ok (.iconst 0, 1) := by decide +kernel
theorem dX0_isParallel_48 : decode cX0_isParallel 48 = .ok (.ireturn, 1) := by decide +kernel
theorem dX0_isTold_0 : decode cX0_isTold 0 = .ok (.iload_n 0, 1) := by decide +kernel
theorem dX0_isTold_1 : decode cX0_isTold 1 = .ok (.bipush 12, 2) := by decide +kernel
theorem dX0_isTold_3 : decode cX0_isTold 3 = .ok (.irem, 1) := by decide +kernel
theorem dX0_isTold_4 : decode cX0_isTold 4 = .ok (.istore_n 1, 1) := by decide +kernel
theorem dX0_isTold_5 : decode cX0_isTold 5 = .ok (.iload_n 1, 1) := by decide +kernel
theorem dX0_isTold_6 : decode cX0_isTold 6 = .ok (.ifCond .eq 9, 3) := by decide +kernel
theorem dX0_isTold_9 : decode cX0_isTold 9 = .ok (.iload_n 1, 1) := by decide +kernel
theorem dX0_isTold_10 : decode cX0_isTold 10 = .ok (.bipush 7, 2) := by decide +kernel
theorem dX0_isTold_12 : decode cX0_isTold 12 = .ok (.if_icmp .ne 7, 3) := by decide +kernel
theorem dX0_isTold_15 : decode cX0_isTold 15 = .ok (.iconst 1, 1) := by decide +kernel
theorem dX0_isTold_16 : decode cX0_isTold 16 = .ok (.goto 4, 3) := by decide +kernel
theorem dX0_isTold_19 : decode cX0_isTold 19 = .ok (.iconst 0, 1) := by decide +kernel
theorem dX0_isTold_20 : decode cX0_isTold 20 = .ok (.ireturn, 1) := by decide +kernel
theorem dX1_init_0 : decode cX1_init 0 = .ok (.aload_n 0, 1) := by decide +kernel
theorem dX1_init_1 : decode cX1_init 1 = .ok (.invokespecial 3, 3) := by decide +kernel
theorem dX1_init_4 : decode cX1_init 4 = .ok (.aload_n 0, 1) := by decide +kernel
theorem dX1_init_5 : decode cX1_init 5 = .ok (.bipush 12, 2) := by decide +kernel
theorem dX1_init_7 : decode cX1_init 7 = .ok (.newarray .int, 2) := by decide +kernel
theorem dX1_init_9 : decode cX1_init 9 = .ok (.putfield 9, 3) := by decide +kernel
theorem dX1_init_12 : decode cX1_init 12 = .ok (.aload_n 0, 1) := by decide +kernel
theorem dX1_init_13 : decode cX1_init 13 = .ok (.bipush 12, 2) := by decide +kernel
theorem dX1_init_15 : decode cX1_init 15 = .ok (.newarray .int, 2) := by decide +kernel
theorem dX1_init_17 : decode cX1_init 17 = .ok (.putfield 15, 3) := by decide +kernel
theorem dX1_init_20 : decode cX1_init 20 = .ok (.aload_n 0, 1) := by decide +kernel
theorem dX1_init_21 : decode cX1_init 21 = .ok (.bipush 12, 2) := by decide +kernel
theorem dX1_init_23 : decode cX1_init 23 = .ok (.newarray .int, 2) := by decide +kernel
theorem dX1_init_25 : decode cX1_init 25 = .ok (.putfield 18, 3) := by decide +kernel
theorem dX1_init_28 : decode cX1_init 28 = .ok (.aload_n 0, 1) := by decide +kernel
theorem dX1_init_29 : decode cX1_init 29 = .ok (.bipush 12, 2) := by decide +kernel
theorem dX1_init_31 : decode cX1_init 31 = .ok (.newarray .int, 2) := by decide +kernel
theorem dX1_init_33 : decode cX1_init 33 = .ok (.putfield 21, 3) := by decide +kernel
theorem dX1_init_36 : decode cX1_init 36 = .ok (.return_, 1) := by decide +kernel
theorem dX1_isFull_0 : decode cX1_isFull 0 = .ok (.aload_n 0, 1) := by decide +kernel
theorem dX1_isFull_1 : decode cX1_isFull 1 = .ok (.getfield 24, 3) := by decide +kernel
theorem dX1_isFull_4 : decode cX1_isFull 4 = .ok (.bipush 12, 2) := by decide +kernel
theorem dX1_isFull_6 : decode cX1_isFull 6 = .ok (.if_icmp .lt 7, 3) := by decide +kernel
theorem dX1_isFull_9 : decode cX1_isFull 9 = .ok (.iconst 1, 1) := by decide +kernel
theorem dX1_isFull_10 : decode cX1_isFull 10 = .ok (.goto 4, 3) := by decide +kernel
theorem dX1_isFull_13 : decode cX1_isFull 13 = .ok (.iconst 0, 1) := by decide +kernel
theorem dX1_isFull_14 : decode cX1_isFull 14 = .ok (.ireturn, 1) := by decide +kernel
theorem dX1_has_0 : decode cX1_has 0 = .ok (.iload_n 1, 1) := by decide +kernel
theorem dX1_has_1 : decode cX1_has 1 = .ok (.ifCond .lt 15, 3) := by decide +kernel
theorem dX1_has_4 : decode cX1_has 4 = .ok (.iload_n 1, 1) := by decide +kernel
theorem dX1_has_5 : decode cX1_has 5 = .ok (.aload_n 0, 1) := by decide +kernel
theorem dX1_has_6 : decode cX1_has 6 = .ok (.getfield 24, 3) := by decide +kernel
theorem dX1_has_9 : decode cX1_has 9 = .ok (.if_icmp .ge 7, 3) := by decide +kernel
theorem dX1_has_12 : decode cX1_has 12 = .ok (.iconst 1, 1) := by decide +kernel
theorem dX1_has_13 : decode cX1_has 13 = .ok (.goto 4, 3) := by decide +kernel
theorem dX1_has_16 : decode cX1_has 16 = .ok (.iconst 0, 1) := by decide +kernel
theorem dX1_has_17 : decode cX1_has 17 = .ok (.ireturn, 1) := by decide +kernel
theorem dX1_add_0 : decode cX1_add 0 = .ok (.aload_n 0, 1) := by decide +kernel
theorem dX1_add_1 : decode cX1_add 1 = .ok (.getfield 24, 3) := by decide +kernel
theorem dX1_add_4 : decode cX1_add 4 = .ok (.istore 4, 2) := by decide +kernel
theorem dX1_add_6 : decode cX1_add 6 = .ok (.aload_n 0, 1) := by decide +kernel
theorem dX1_add_7 : decode cX1_add 7 = .ok (.getfield 9, 3) := by decide +kernel
theorem dX1_add_10 : decode cX1_add 10 = .ok (.iload 4, 2) := by decide +kernel
theorem dX1_add_12 : decode cX1_add 12 = .ok (.iload_n 1, 1) := by decide +kernel
theorem dX1_add_13 : decode cX1_add 13 = .ok (.iastore, 1) := by decide +kernel
theorem dX1_add_14 : decode cX1_add 14 = .ok (.aload_n 0, 1) := by decide +kernel
theorem dX1_add_15 : decode cX1_add 15 = .ok (.getfield 15, 3) := by decide +kernel
theorem dX1_add_18 : decode cX1_add 18 = .ok (.iload 4, 2) := by decide +kernel
theorem dX1_add_20 : decode cX1_add 20 = .ok (.iload_n 2, 1) := by decide +kernel
theorem dX1_add_21 : decode cX1_add 21 = .ok (.iastore, 1) := by decide +kernel
theorem dX1_add_22 : decode cX1_add 22 = .ok (.aload_n 0, 1) := by decide +kernel
theorem dX1_add_23 : decode cX1_add 23 = .ok (.getfield 18, 3) := by decide +kernel
theorem dX1_add_26 : decode cX1_add 26 = .ok (.iload 4, 2) := by decide +kernel
theorem dX1_add_28 : decode cX1_add 28 = .ok (.iload_n 3, 1) := by decide +kernel
theorem dX1_add_29 : decode cX1_add 29 = .ok (.iastore, 1) := by decide +kernel
theorem dX1_add_30 : decode cX1_add 30 = .ok (.aload_n 0, 1) := by decide +kernel
theorem dX1_add_31 : decode cX1_add 31 = .ok (.dup, 1) := by decide +kernel
theorem dX1_add_32 : decode cX1_add 32 = .ok (.getfield 24, 3) := by decide +kernel
theorem dX1_add_35 : decode cX1_add 35 = .ok (.iconst 1, 1) := by decide +kernel
theorem dX1_add_36 : decode cX1_add 36 = .ok (.iadd, 1) := by decide +kernel
theorem dX1_add_37 : decode cX1_add 37 = .ok (.putfield 24, 3) := by decide +kernel
theorem dX1_add_40 : decode cX1_add 40 = .ok (.iload 4, 2) := by decide +kernel
theorem dX1_add_42 : decode cX1_add 42 = .ok (.ireturn, 1) := by decide +kernel
theorem dX1_replaceVoice_0 : decode cX1_replaceVoice 0 = .ok (.aload_n 0, 1) := by decide +kernel
theorem dX1_replaceVoice_1 : decode cX1_replaceVoice 1 = .ok (.getfield 9, 3) := by decide +kernel
theorem dX1_replaceVoice_4 : decode cX1_replaceVoice 4 = .ok (.iload_n 1, 1) := by decide +kernel
theorem dX1_replaceVoice_5 : decode cX1_replaceVoice 5 = .ok (.iaload, 1) := by decide +kernel
theorem dX1_replaceVoice_6 : decode cX1_replaceVoice 6 = .ok (.istore_n 3, 1) := by decide +kernel
theorem dX1_replaceVoice_7 : decode cX1_replaceVoice 7 = .ok (.aload_n 0, 1) := by decide +kernel
theorem dX1_replaceVoice_8 : decode cX1_replaceVoice 8 = .ok (.getfield 9, 3) := by decide +kernel
theorem dX1_replaceVoice_11 : decode cX1_replaceVoice 11 = .ok (.iload_n 1, 1) := by decide +kernel
theorem dX1_replaceVoice_12 : decode cX1_replaceVoice 12 = .ok (.iload_n 2, 1) := by decide +kernel
theorem dX1_replaceVoice_13 : decode cX1_replaceVoice 13 = .ok (.iastore, 1) := by decide +kernel
theorem dX1_replaceVoice_14 : decode cX1_replaceVoice 14 = .ok (.iload_n 3, 1) := by decide +kernel
theorem dX1_replaceVoice_15 : decode cX1_replaceVoice 15 = .ok (.ireturn, 1) := by decide +kernel
theorem dX1_isThere_0 : decode cX1_isThere 0 = .ok (.aload_n 0, 1) := by decide +kernel
theorem dX1_isThere_1 : decode cX1_isThere 1 = .ok (.getfield 21, 3) := by decide +kernel
theorem dX1_isThere_4 : decode cX1_isThere 4 = .ok (.iload_n 1, 1) := by decide +kernel
theorem dX1_isThere_5 : decode cX1_isThere 5 = .ok (.iaload, 1) := by decide +kernel
theorem dX1_isThere_6 : decode cX1_isThere 6 = .ok (.iload_n 2, 1) := by decide +kernel
theorem dX1_isThere_7 : decode cX1_isThere 7 = .ok (.ishr, 1) := by decide +kernel
theorem dX1_isThere_8 : decode cX1_isThere 8 = .ok (.iconst 1, 1) := by decide +kernel
theorem dX1_isThere_9 : decode cX1_isThere 9 = .ok (.iand, 1) := by decide +kernel
theorem dX1_isThere_10 : decode cX1_isThere 10 = .ok (.ifCond .ne 7, 3) := by decide +kernel
theorem dX1_isThere_13 : decode cX1_isThere 13 = .ok (.iconst 1, 1) := by decide +kernel
theorem dX1_isThere_14 : decode cX1_isThere 14 = .ok (.goto 4, 3) := by decide +kernel
theorem dX1_isThere_17 : decode cX1_isThere 17 = .ok (.iconst 0, 1) := by decide +kernel
theorem dX1_isThere_18 : decode cX1_isThere 18 = .ok (.ireturn, 1) := by decide +kernel
theorem dX1_putThere_0 : decode cX1_putThere 0 = .ok (.iconst 1, 1) := by decide +kernel
theorem dX1_putThere_1 : decode cX1_putThere 1 = .ok (.iload_n 2, 1) := by decide +kernel
theorem dX1_putThere_2 : decode cX1_putThere 2 = .ok (.ishl, 1) := by decide +kernel
theorem dX1_putThere_3 : decode cX1_putThere 3 = .ok (.istore 4, 2) := by decide +kernel
theorem dX1_putThere_5 : decode cX1_putThere 5 = .ok (.aload_n 0, 1) := by decide +kernel
theorem dX1_putThere_6 : decode cX1_putThere 6 = .ok (.getfield 21, 3) := by decide +kernel
theorem dX1_putThere_9 : decode cX1_putThere 9 = .ok (.iload_n 1, 1) := by decide +kernel
theorem dX1_putThere_10 : decode cX1_putThere 10 = .ok (.iload_n 3, 1) := by decide +kernel
theorem dX1_putThere_11 : decode cX1_putThere 11 = .ok (.ifCond .eq 17, 3) := by decide +kernel
theorem dX1_putThere_14 : decode cX1_putThere 14 = .ok (.aload_n 0, 1) := by decide +kernel
theorem dX1_putThere_15 : decode cX1_putThere 15 = .ok (.getfield 21, 3) := by decide +kernel
theorem dX1_putThere_18 : decode cX1_putThere 18 = .ok (.iload_n 1, 1) := by decide +kernel
theorem dX1_putThere_19 : decode cX1_putThere 19 = .ok (.iaload, 1) := by decide +kernel
theorem dX1_putThere_20 : decode cX1_putThere 20 = .ok (.iload 4, 2) := by decide +kernel
theorem dX1_putThere_22 : decode cX1_putThere 22 = .ok (.iconst (-1), 1) := by decide +kernel
theorem dX1_putThere_23 : decode cX1_putThere 23 = .ok (.ixor, 1) := by decide +kernel
theorem dX1_putThere_24 : decode cX1_putThere 24 = .ok (.iand, 1) := by decide +kernel
theorem dX1_putThere_25 : decode cX1_putThere 25 = .ok (.goto 12, 3) := by decide +kernel
theorem dX1_putThere_28 : decode cX1_putThere 28 = .ok (.aload_n 0, 1) := by decide +kernel
theorem dX1_putThere_29 : decode cX1_putThere 29 = .ok (.getfield 21, 3) := by decide +kernel
theorem dX1_putThere_32 : decode cX1_putThere 32 = .ok (.iload_n 1, 1) := by decide +kernel
theorem dX1_putThere_33 : decode cX1_putThere 33 = .ok (.iaload, 1) := by decide +kernel
theorem dX1_putThere_34 : decode cX1_putThere 34 = .ok (.iload 4, 2) := by decide +kernel
theorem dX1_putThere_36 : decode cX1_putThere 36 = .ok (.ior, 1) := by decide +kernel
theorem dX1_putThere_37 : decode cX1_putThere 37 = .ok (.iastore, 1) := by decide +kernel
theorem dX1_putThere_38 : decode cX1_putThere 38 = .ok (.return_, 1) := by decide +kernel
theorem dX1_firstTone_0 : decode cX1_firstTone 0 = .ok (.iconst 0, 1) := by decide +kernel
theorem dX1_firstTone_1 : decode cX1_firstTone 1 = .ok (.istore_n 3, 1) := by decide +kernel
theorem dX1_firstTone_2 : decode cX1_firstTone 2 = .ok (.iconst 0, 1) := by decide +kernel
theorem dX1_firstTone_3 : decode cX1_firstTone 3 = .ok (.istore 4, 2) := by decide +kernel
theorem dX1_firstTone_5 : decode cX1_firstTone 5 = .ok (.iload 4, 2) := by decide +kernel
theorem dX1_firstTone_7 : decode cX1_firstTone 7 = .ok (.aload_n 0, 1) := by decide +kernel
theorem dX1_firstTone_8 : decode cX1_firstTone 8 = .ok (.getfield 24, 3) := by decide +kernel
theorem dX1_firstTone_11 : decode cX1_firstTone 11 = .ok (.if_icmp .ge 32, 3) := by decide +kernel
theorem dX1_firstTone_14 : decode cX1_firstTone 14 = .ok (.aload_n 0, 1) := by decide +kernel
theorem dX1_firstTone_15 : decode cX1_firstTone 15 = .ok (.iload 4, 2) := by decide +kernel
theorem dX1_firstTone_17 : decode cX1_firstTone 17 = .ok (.iload_n 1, 1) := by decide +kernel
theorem dX1_firstTone_18 : decode cX1_firstTone 18 = .ok (.iload_n 2, 1) := by decide +kernel
theorem dX1_firstTone_19 : decode cX1_firstTone 19 = .ok (.invokevirtual 28, 3) := by decide +kernel
theorem dX1_firstTone_22 : decode cX1_firstTone 22 = .ok (.ifCond .eq 15, 3) := by decide +kernel
theorem dX1_firstTone_25 : decode cX1_firstTone 25 = .ok (.iload_n 3, 1) := by decide +kernel
theorem dX1_firstTone_26 : decode cX1_firstTone 26 = .ok (.aload_n 0, 1) := by decide +kernel
theorem dX1_firstTone_27 : decode cX1_firstTone 27 = .ok (.getfield 15, 3) := by decide +kernel
theorem dX1_firstTone_30 : decode cX1_firstTone 30 = .ok (.iload 4, 2) := by decide +kernel
theorem dX1_firstTone_32 : decode cX1_firstTone 32 = .ok (.iaload, 1) := by decide +kernel
theorem dX1_firstTone_33 : decode cX1_firstTone 33 = .ok (.invokestatic 32, 3) := by decide +kernel
theorem dX1_firstTone_36 : decode cX1_firstTone 36 = .ok (.istore_n 3, 1) := by decide +kernel
theorem dX1_firstTone_37 : decode cX1_firstTone 37 = .ok (.iinc 4 1, 3) := by decide +kernel
theorem dX1_firstTone_40 : decode cX1_firstTone 40 = .ok (.goto (-35), 3) := by decide +kernel
theorem dX1_firstTone_43 : decode cX1_firstTone 43 = .ok (.iload_n 3, 1) := by decide +kernel
theorem dX1_firstTone_44 : decode cX1_firstTone 44 = .ok (.ireturn, 1) := by decide +kernel
theorem dX1_lastTone_0 : decode cX1_lastTone 0 = .ok (.iconst (-1), 1) := by decide +kernel
theorem dX1_lastTone_1 : decode cX1_lastTone 1 = .ok (.istore_n 3, 1) := by decide +kernel
theorem dX1_lastTone_2 : decode cX1_lastTone 2 = .ok (.iconst 0, 1) := by decide +kernel
theorem dX1_lastTone_3 : decode cX1_lastTone 3 = .ok (.istore 4, 2) := by decide +kernel
theorem dX1_lastTone_5 : decode cX1_lastTone 5 = .ok (.iload 4, 2) := by decide +kernel
theorem dX1_lastTone_7 : decode cX1_lastTone 7 = .ok (.aload_n 0, 1) := by decide +kernel
theorem dX1_lastTone_8 : decode cX1_lastTone 8 = .ok (.getfield 24, 3) := by decide +kernel
theorem dX1_lastTone_11 : decode cX1_lastTone 11 = .ok (.if_icmp .ge 46, 3) := by decide +kernel
theorem dX1_lastTone_14 : decode cX1_lastTone 14 = .ok (.aload_n 0, 1) := by decide +kernel
theorem dX1_lastTone_15 : decode cX1_lastTone 15 = .ok (.iload 4, 2) := by decide +kernel
theorem dX1_lastTone_17 : decode cX1_lastTone 17 = .ok (.iload_n 1, 1) := by decide +kernel
theorem dX1_lastTone_18 : decode cX1_lastTone 18 = .ok (.iload_n 2, 1) := by decide +kernel
theorem dX1_lastTone_19 : decode cX1_lastTone 19 = .ok (.invokevirtual 28, 3) := by decide +kernel
theorem dX1_lastTone_22 : decode cX1_lastTone 22 = .ok (.ifCond .eq 29, 3) := by decide +kernel
theorem dX1_lastTone_25 : decode cX1_lastTone 25 = .ok (.iload_n 3, 1) := by decide +kernel
theorem dX1_lastTone_26 : decode cX1_lastTone 26 = .ok (.ifCond .ge 13, 3) := by decide +kernel
theorem dX1_lastTone_29 : decode cX1_lastTone 29 = .ok (.aload_n 0, 1) := by decide +kernel
theorem dX1_lastTone_30 : decode cX1_lastTone 30 = .ok (.getfield 18, 3) := by decide +kernel
theorem dX1_lastTone_33 : decode cX1_lastTone 33 = .ok (.iload 4, 2) := by decide +kernel
theorem dX1_lastTone_35 : decode cX1_lastTone 35 = .ok (.iaload, 1) := by decide +kernel
theorem dX1_lastTone_36 : decode cX1_lastTone 36 = .ok (.goto 14, 3) := by decide +kernel
theorem dX1_lastTone_39 : decode cX1_lastTone 39 = .ok (.iload_n 3, 1) := by decide +kernel
theorem dX1_lastTone_40 : decode cX1_lastTone 40 = .ok (.aload_n 0, 1) := by decide +kernel
theorem dX1_lastTone_41 : decode cX1_lastTone 41 = .ok (.getfield 18, 3) := by decide +kernel
theorem dX1_lastTone_44 : decode cX1_lastTone 44 = .ok (.iload 4, 2) := by decide +kernel
theorem dX1_lastTone_46 : decode cX1_lastTone 46 = .ok (.iaload, 1) := by decide +kernel
theorem dX1_lastTone_47 : decode cX1_lastTone 47 = .ok (.invokestatic 38, 3) := by decide +kernel
theorem dX1_lastTone_50 : decode cX1_lastTone 50 = .ok (.istore_n 3, 1) := by decide +kernel
theorem dX1_lastTone_51 : decode cX1_lastTone 51 = .ok (.iinc 4 1, 3) := by decide +kernel
theorem dX1_lastTone_54 : decode cX1_lastTone 54 = .ok (.goto (-49), 3) := by decide +kernel
theorem dX1_lastTone_57 : decode cX1_lastTone 57 = .ok (.iload_n 3, 1) := by decide +kernel
theorem dX1_lastTone_58 : decode cX1_lastTone 58 = .ok (.ireturn, 1) := by decide +kernel
theorem dX1_countMissed_0 : decode cX1_countMissed 0 = .ok (.iconst 0, 1) := by decide +kernel
theorem dX1_countMissed_1 : decode cX1_countMissed 1 = .ok (.istore_n 2, 1) := by decide +kernel
theorem dX1_countMissed_2 : decode cX1_countMissed 2 = .ok (.iconst 0, 1) := by decide +kernel
theorem dX1_countMissed_3 : decode cX1_countMissed 3 = .ok (.istore_n 3, 1) := by decide +kernel
theorem dX1_countMissed_4 : decode cX1_countMissed 4 = .ok (.iload_n 3, 1) := by decide +kernel
theorem dX1_countMissed_5 : decode cX1_countMissed 5 = .ok (.aload_n 0, 1) := by decide +kernel
theorem dX1_countMissed_6 : decode cX1_countMissed 6 = .ok (.getfield 24, 3) := by decide +kernel
theorem dX1_countMissed_9 : decode cX1_countMissed 9 = .ok (.if_icmp .ge 35, 3) := by decide +kernel
theorem dX1_countMissed_12 : decode cX1_countMissed 12 = .ok (.aload_n 0, 1) := by decide +kernel
theorem dX1_countMissed_13 : decode cX1_countMissed 13 = .ok (.iload_n 3, 1) := by decide +kernel
theorem dX1_countMissed_14 : decode cX1_countMissed 14 = .ok (.iload_n 1, 1) := by decide +kernel
theorem dX1_countMissed_15 : decode cX1_countMissed 15 = .ok (.invokevirtual 41, 3) := by decide +kernel
theorem dX1_countMissed_18 : decode cX1_countMissed 18 = .ok (.ifCond .ne 20, 3) := by decide +kernel
theorem dX1_countMissed_21 : decode cX1_countMissed 21 = .ok (.aload_n 0, 1) := by decide +kernel
theorem dX1_countMissed_22 : decode cX1_countMissed 22 = .ok (.aload_n 0, 1) := by decide +kernel
theorem dX1_countMissed_23 : decode cX1_countMissed 23 = .ok (.getfield 9, 3) := by decide +kernel
theorem dX1_countMissed_26 : decode cX1_countMissed 26 = .ok (.iload_n 3, 1) := by decide +kernel
theorem dX1_countMissed_27 : decode cX1_countMissed 27 = .ok (.iaload, 1) := by decide +kernel
theorem dX1_countMissed_28 : decode cX1_countMissed 28 = .ok (.iload_n 1, 1) := by decide +kernel
theorem dX1_countMissed_29 : decode cX1_countMissed 29 = .ok (.invokevirtual 45, 3) := by decide +kernel
theorem dX1_countMissed_32 : decode cX1_countMissed 32 = .ok (.ifCond .ge 6, 3) := by decide +kernel
theorem dX1_countMissed_35 : decode cX1_countMissed 35 = .ok (.iinc 2 1, 3) := by decide +kernel
theorem dX1_countMissed_38 : decode cX1_countMissed 38 = .ok (.iinc 3 1, 3) := by decide +kernel
theorem dX1_countMissed_41 : decode cX1_countMissed 41 = .ok (.goto (-37), 3) := by decide +kernel
theorem dX1_countMissed_44 : decode cX1_countMissed 44 = .ok (.iload_n 2, 1) := by decide +kernel
theorem dX1_countMissed_45 : decode cX1_countMissed 45 = .ok (.ireturn, 1) := by decide +kernel
theorem dX1_sings_0 : decode cX1_sings 0 = .ok (.aload_n 0, 1) := by decide +kernel
theorem dX1_sings_1 : decode cX1_sings 1 = .ok (.getfield 9, 3) := by decide +kernel
theorem dX1_sings_4 : decode cX1_sings 4 = .ok (.iload_n 1, 1) := by decide +kernel
theorem dX1_sings_5 : decode cX1_sings 5 = .ok (.iaload, 1) := by decide +kernel
theorem dX1_sings_6 : decode cX1_sings 6 = .ok (.iload_n 2, 1) := by decide +kernel
theorem dX1_sings_7 : decode cX1_sings 7 = .ok (.if_icmp .ne 16, 3) := by decide +kernel
theorem dX1_sings_10 : decode cX1_sings 10 = .ok (.aload_n 0, 1) := by decide +kernel
theorem dX1_sings_11 : decode cX1_sings 11 = .ok (.iload_n 1, 1) := by decide +kernel
theorem dX1_sings_12 : decode cX1_sings 12 = .ok (.iload_n 3, 1) := by decide +kernel
theorem dX1_sings_13 : decode cX1_sings 13 = .ok (.invokevirtual 41, 3) := by decide +kernel
theorem dX1_sings_16 : decode cX1_sings 16 = .ok (.ifCond .eq 7, 3) := by decide +kernel
theorem dX1_sings_19 : decode cX1_sings 19 = .ok (.iconst 1, 1) := by decide +kernel
theorem dX1_sings_20 : decode cX1_sings 20 = .ok (.goto 4, 3) := by decide +kernel
theorem dX1_sings_23 : decode cX1_sings 23 = .ok (.iconst 0, 1) := by decide +kernel
theorem dX1_sings_24 : decode cX1_sings 24 = .ok (.ireturn, 1) := by decide +kernel
theorem dX2_init_0 : decode cX2_init 0 = .ok (.aload_n 0, 1) := by decide +kernel
theorem dX2_init_1 : decode cX2_init 1 = .ok (.invokespecial 3, 3) := by decide +kernel
theorem dX2_init_4 : decode cX2_init 4 = .ok (.aload_n 0, 1) := by decide +kernel
theorem dX2_init_5 : decode cX2_init 5 = .ok (.new 9, 3) := by decide +kernel
theorem dX2_init_8 : decode cX2_init 8 = .ok (.dup, 1) := by decide +kernel
theorem dX2_init_9 : decode cX2_init 9 = .ok (.invokespecial 11, 3) := by decide +kernel
theorem dX2_init_12 : decode cX2_init 12 = .ok (.putfield 12, 3) := by decide +kernel
theorem dX2_init_15 : decode cX2_init 15 = .ok (.aload_n 0, 1) := by decide +kernel
theorem dX2_init_16 : decode cX2_init 16 = .ok (.bipush 6, 2) := by decide +kernel
theorem dX2_init_18 : decode cX2_init 18 = .ok (.anewarray 16, 3) := by decide +kernel
theorem dX2_init_21 : decode cX2_init 21 = .ok (.putfield 18, 3) := by decide +kernel
theorem dX2_init_24 : decode cX2_init 24 = .ok (.aload_n 0, 1) := by decide +kernel
theorem dX2_init_25 : decode cX2_init 25 = .ok (.new 16, 3) := by decide +kernel
theorem dX2_init_28 : decode cX2_init 28 = .ok (.dup, 1) := by decide +kernel
theorem dX2_init_29 : decode cX2_init 29 = .ok (.invokespecial 22, 3) := by decide +kernel
theorem dX2_init_32 : decode cX2_init 32 = .ok (.putfield 23, 3) := by decide +kernel
theorem dX2_init_35 : decode cX2_init 35 = .ok (.return_, 1) := by decide +kernel
theorem dX2_addSinger_0 : decode cX2_addSinger 0 = .ok (.iload_n 1, 1) := by decide +kernel
theorem dX2_addSinger_1 : decode cX2_addSinger 1 = .ok (.invokestatic 27, 3) := by decide +kernel
theorem dX2_addSinger_4 : decode cX2_addSinger 4 = .ok (.iload_n 2, 1) := by decide +kernel
theorem dX2_addSinger_5 : decode cX2_addSinger 5 = .ok (.bipush 60, 2) := by decide +kernel
theorem dX2_addSinger_7 : decode cX2_addSinger 7 = .ok (.invokestatic 31, 3) := by decide +kernel
theorem dX2_addSinger_10 : decode cX2_addSinger 10 = .ok (.iload_n 3, 1) := by decide +kernel
theorem dX2_addSinger_11 : decode cX2_addSinger 11 = .ok (.bipush 60, 2) := by decide +kernel
theorem dX2_addSinger_13 : decode cX2_addSinger 13 = .ok (.invokestatic 31, 3) := by decide +kernel
theorem dX2_addSinger_16 : decode cX2_addSinger 16 = .ok (.iload_n 3, 1) := by decide +kernel
theorem dX2_addSinger_17 : decode cX2_addSinger 17 = .ok (.iload_n 2, 1) := by decide +kernel
theorem dX2_addSinger_18 : decode cX2_addSinger 18 = .ok (.if_icmp .ge 13, 3) := by decide +kernel
theorem dX2_addSinger_21 : decode cX2_addSinger 21 = .ok (.new 35, 3) := by decide +kernel
theorem dX2_addSinger_24 : decode cX2_addSinger 24 = .ok (.dup, 1) := by decide +kernel
theorem dX2_addSinger_25 : decode cX2_addSinger 25 = .ok (.ldc 37, 2) := by decide +kernel
theorem dX2_addSinger_27 : decode cX2_addSinger 27 = .ok (.invokespecial 39, 3) := by decide +kernel
theorem dX2_addSinger_30 : decode cX2_addSinger 30 = .ok (.athrow, 1) := by decide +kernel
theorem dX2_addSinger_31 : decode cX2_addSinger 31 = .ok (.aload_n 0, 1) := by decide +kernel
theorem dX2_addSinger_32 : decode cX2_addSinger 32 = .ok (.getfield 12, 3) := by decide +kernel
theorem dX2_addSinger_35 : decode cX2_addSinger 35 = .ok (.invokevirtual 42, 3) := by decide +kernel
theorem dX2_addSinger_38 : decode cX2_addSinger 38 = .ok (.ifCond .eq 13, 3) := by decide +kernel
theorem dX2_addSinger_41 : decode cX2_addSinger 41 = .ok (.new 46, 3) := by decide +kernel
theorem dX2_addSinger_44 : decode cX2_addSinger 44 = .ok (.dup, 1) := by decide +kernel
theorem dX2_addSinger_45 : decode cX2_addSinger 45 = .ok (.ldc 48, 2) := by decide +kernel
theorem dX2_addSinger_47 : decode cX2_addSinger 47 = .ok (.invokespecial 50, 3) := by decide +kernel
theorem dX2_addSinger_50 : decode cX2_addSinger 50 = .ok (.athrow, 1) := by decide +kernel
theorem dX2_addSinger_51 : decode cX2_addSinger 51 = .ok (.aload_n 0, 1) := by decide +kernel
theorem dX2_addSinger_52 : decode cX2_addSinger 52 = .ok (.getfield 12, 3) := by decide +kernel
theorem dX2_addSinger_55 : decode cX2_addSinger 55 = .ok (.iload_n 1, 1) := by decide +kernel
theorem dX2_addSinger_56 : decode cX2_addSinger 56 = .ok (.iload_n 2, 1) := by decide +kernel
theorem dX2_addSinger_57 : decode cX2_addSinger 57 = .ok (.iload_n 3, 1) := by decide +kernel
theorem dX2_addSinger_58 : decode cX2_addSinger 58 = .ok (.invokevirtual 51, 3) := by decide +kernel
theorem dX2_addSinger_61 : decode cX2_addSinger 61 = .ok (.ireturn, 1) := by decide +kernel
theorem dX2_tell_0 : decode cX2_tell 0 = .ok (.aload_n 0, 1) := by decide +kernel
theorem dX2_tell_1 : decode cX2_tell 1 = .ok (.iload_n 1, 1) := by decide +kernel
theorem dX2_tell_2 : decode cX2_tell 2 = .ok (.invokevirtual 55, 3) := by decide +kernel
theorem dX2_tell_5 : decode cX2_tell 5 = .ok (.iload_n 2, 1) := by decide +kernel
theorem dX2_tell_6 : decode cX2_tell 6 = .ok (.invokestatic 58, 3) := by decide +kernel
theorem dX2_tell_9 : decode cX2_tell 9 = .ok (.aload_n 0, 1) := by decide +kernel
theorem dX2_tell_10 : decode cX2_tell 10 = .ok (.getfield 12, 3) := by decide +kernel
theorem dX2_tell_13 : decode cX2_tell 13 = .ok (.iload_n 1, 1) := by decide +kernel
theorem dX2_tell_14 : decode cX2_tell 14 = .ok (.iload_n 2, 1) := by decide +kernel
theorem dX2_tell_15 : decode cX2_tell 15 = .ok (.invokevirtual 61, 3) := by decide +kernel
theorem dX2_tell_18 : decode cX2_tell 18 = .ok (.istore 4, 2) := by decide +kernel
theorem dX2_tell_20 : decode cX2_tell 20 = .ok (.aload_n 0, 1) := by decide +kernel
theorem dX2_tell_21 : decode cX2_tell 21 = .ok (.getfield 12, 3) := by decide +kernel
theorem dX2_tell_24 : decode cX2_tell 24 = .ok (.iload_n 1, 1) := by decide +kernel
theorem dX2_tell_25 : decode cX2_tell 25 = .ok (.iload_n 2, 1) := by decide +kernel
theorem dX2_tell_26 : decode cX2_tell 26 = .ok (.iload_n 3, 1) := by decide +kernel
theorem dX2_tell_27 : decode cX2_tell 27 = .ok (.invokevirtual 65, 3) := by decide +kernel
theorem dX2_tell_30 : decode cX2_tell 30 = .ok (.iload 4, 2) := by decide +kernel
theorem dX2_tell_32 : decode cX2_tell 32 = .ok (.ireturn, 1) := by decide +kernel
theorem dX2_change_0 : decode cX2_change 0 = .ok (.aload_n 0, 1) := by decide +kernel
theorem dX2_change_1 : decode cX2_change 1 = .ok (.iload_n 1, 1) := by decide +kernel
theorem dX2_change_2 : decode cX2_change 2 = .ok (.invokevirtual 55, 3) := by decide +kernel
theorem dX2_change_5 : decode cX2_change 5 = .ok (.iload_n 2, 1) := by decide +kernel
theorem dX2_change_6 : decode cX2_change 6 = .ok (.invokestatic 27, 3) := by decide +kernel
theorem dX2_change_9 : decode cX2_change 9 = .ok (.aload_n 0, 1) := by decide +kernel
theorem dX2_change_10 : decode cX2_change 10 = .ok (.getfield 12, 3) := by decide +kernel
theorem dX2_change_13 : decode cX2_change 13 = .ok (.iload_n 1, 1) := by decide +kernel
theorem dX2_change_14 : decode cX2_change 14 = .ok (.iload_n 2, 1) := by decide +kernel
theorem dX2_change_15 : decode cX2_change 15 = .ok (.invokevirtual 69, 3) := by decide +kernel
theorem dX2_change_18 : decode cX2_change 18 = .ok (.ireturn, 1) := by decide +kernel
theorem dX2_range_0 : decode cX2_range 0 = .ok (.iload_n 1, 1) := by decide +kernel
theorem dX2_range_1 : decode cX2_range 1 = .ok (.invokestatic 27, 3) := by decide +kernel
theorem dX2_range_4 : decode cX2_range 4 = .ok (.iload_n 2, 1) := by decide +kernel
theorem dX2_range_5 : decode cX2_range 5 = .ok (.invokestatic 58, 3) := by decide +kernel
theorem dX2_range_8 : decode cX2_range 8 = .ok (.aload_n 0, 1) := by decide +kernel
theorem dX2_range_9 : decode cX2_range 9 = .ok (.getfield 12, 3) := by decide +kernel
theorem dX2_range_12 : decode cX2_range 12 = .ok (.iload_n 1, 1) := by decide +kernel
theorem dX2_range_13 : decode cX2_range 13 = .ok (.iload_n 2, 1) := by decide +kernel
theorem dX2_range_14 : decode cX2_range 14 = .ok (.invokevirtual 73, 3) := by decide +kernel
theorem dX2_range_17 : decode cX2_range 17 = .ok (.istore_n 3, 1) := by decide +kernel
theorem dX2_range_18 : decode cX2_range 18 = .ok (.aload_n 0, 1) := by decide +kernel
theorem dX2_range_19 : decode cX2_range 19 = .ok (.getfield 12, 3) := by decide +kernel
theorem dX2_range_22 : decode cX2_range 22 = .ok (.iload_n 1, 1) := by decide +kernel
theorem dX2_range_23 : decode cX2_range 23 = .ok (.iload_n 2, 1) := by decide +kernel
theorem dX2_range_24 : decode cX2_range 24 = .ok (.invokevirtual 76, 3) := by decide +kernel
theorem dX2_range_27 : decode cX2_range 27 = .ok (.istore 4, 2) := by decide +kernel
theorem dX2_range_29 : decode cX2_range 29 = .ok (.iload_n 3, 1) := by decide +kernel
theorem dX2_range_30 : decode cX2_range 30 = .ok (.iload 4, 2) := by decide +kernel
theorem dX2_range_32 : decode cX2_range 32 = .ok (.if_icmp .le 7, 3) := by decide +kernel
theorem dX2_range_35 : decode cX2_range 35 = .ok (.iconst (-1), 1) := by decide +kernel
theorem dX2_range_36 : decode cX2_range 36 = .ok (.goto 10, 3) := by decide +kernel
theorem dX2_range_39 : decode cX2_range 39 = .ok (.bipush 100, 2) := by decide +kernel
theorem dX2_range_41 : decode cX2_range 41 = .ok (.iload_n 3, 1) := by decide +kernel
theorem dX2_range_42 : decode cX2_range 42 = .ok (.imul, 1) := by decide +kernel
theorem dX2_range_43 : decode cX2_range 43 = .ok (.iload 4, 2) := by decide +kernel
theorem dX2_range_45 : decode cX2_range 45 = .ok (.iadd, 1) := by decide +kernel
theorem dX2_range_46 : decode cX2_range 46 = .ok (.ireturn, 1) := by decide +kernel
theorem dX2_chord_0 : decode cX2_chord 0 = .ok (.iload_n 1, 1) := by decide +kernel
theorem dX2_chord_1 : decode cX2_chord 1 = .ok (.bipush 60, 2) := by decide +kernel
theorem dX2_chord_3 : decode cX2_chord 3 = .ok (.invokestatic 31, 3) := by decide +kernel
theorem dX2_chord_6 : decode cX2_chord 6 = .ok (.iload_n 2, 1) := by decide +kernel
theorem dX2_chord_7 : decode cX2_chord 7 = .ok (.iload_n 1, 1) := by decide +kernel
theorem dX2_chord_8 : decode cX2_chord 8 = .ok (.invokestatic 31, 3) := by decide +kernel
theorem dX2_chord_11 : decode cX2_chord 11 = .ok (.iload_n 3, 1) := by decide +kernel
theorem dX2_chord_12 : decode cX2_chord 12 = .ok (.iload_n 2, 1) := by decide +kernel
theorem dX2_chord_13 : decode cX2_chord 13 = .ok (.invokestatic 31, 3) := by decide +kernel
theorem dX2_chord_16 : decode cX2_chord 16 = .ok (.iload 4, 2) := by decide +kernel
theorem dX2_chord_18 : decode cX2_chord 18 = .ok (.iload_n 3, 1) := by decide +kernel
theorem dX2_chord_19 : decode cX2_chord 19 = .ok (.invokestatic 31, 3) := by decide +kernel
theorem dX2_chord_22 : decode cX2_chord 22 = .ok (.aload_n 0, 1) := by decide +kernel
theorem dX2_chord_23 : decode cX2_chord 23 = .ok (.getfield 23, 3) := by decide +kernel
theorem dX2_chord_26 : decode cX2_chord 26 = .ok (.invokevirtual 79, 3) := by decide +kernel
theorem dX2_chord_29 : decode cX2_chord 29 = .ok (.ifCond .eq 13, 3) := by decide +kernel
theorem dX2_chord_32 : decode cX2_chord 32 = .ok (.new 46, 3) := by decide +kernel
theorem dX2_chord_35 : decode cX2_chord 35 = .ok (.dup, 1) := by decide +kernel
theorem dX2_chord_36 : decode cX2_chord 36 = .ok (.ldc 80, 2) := by decide +kernel
theorem dX2_chord_38 : decode cX2_chord 38 = .ok (.invokespecial 50, 3) := by decide +kernel
theorem dX2_chord_41 : decode cX2_chord 41 = .ok (.athrow, 1) := by decide +kernel
theorem dX2_chord_42 : decode cX2_chord 42 = .ok (.aload_n 0, 1) := by decide +kernel
theorem dX2_chord_43 : decode cX2_chord 43 = .ok (.getfield 23, 3) := by decide +kernel
theorem dX2_chord_46 : decode cX2_chord 46 = .ok (.iload_n 1, 1) := by decide +kernel
theorem dX2_chord_47 : decode cX2_chord 47 = .ok (.iload_n 2, 1) := by decide +kernel
theorem dX2_chord_48 : decode cX2_chord 48 = .ok (.iload_n 3, 1) := by decide +kernel
theorem dX2_chord_49 : decode cX2_chord 49 = .ok (.iload 4, 2) := by decide +kernel
theorem dX2_chord_51 : decode cX2_chord 51 = .ok (.invokevirtual 82, 3) := by decide +kernel
theorem dX2_chord_54 : decode cX2_chord 54 = .ok (.ireturn, 1) := by decide +kernel
theorem dX2_addPiece_0 : decode cX2_addPiece 0 = .ok (.iload_n 1, 1) := by decide +kernel
theorem dX2_addPiece_1 : decode cX2_addPiece 1 = .ok (.iconst 1, 1) := by decide +kernel
theorem dX2_addPiece_2 : decode cX2_addPiece 2 = .ok (.if_icmp .lt 10, 3) := by decide +kernel
theorem dX2_addPiece_5 : decode cX2_addPiece 5 = .ok (.iload_n 1, 1) := by decide +kernel
theorem dX2_addPiece_6 : decode cX2_addPiece 6 = .ok (.sipush 3600, 3) := by decide +kernel
theorem dX2_addPiece_9 : decode cX2_addPiece 9 = .ok (.if_icmp .le 13, 3) := by decide +kernel
theorem dX2_addPiece_12 : decode cX2_addPiece 12 = .ok (.new 35, 3) := by decide +kernel
theorem dX2_addPiece_15 : decode cX2_addPiece 15 = .ok (.dup, 1) := by decide +kernel
theorem dX2_addPiece_16 : decode cX2_addPiece 16 = .ok (.ldc 86, 2) := by decide +kernel
theorem dX2_addPiece_18 : decode cX2_addPiece 18 = .ok (.invokespecial 39, 3) := by decide +kernel
theorem dX2_addPiece_21 : decode cX2_addPiece 21 = .ok (.athrow, 1) := by decide +kernel
theorem dX2_addPiece_22 : decode cX2_addPiece 22 = .ok (.aload_n 0, 1) := by decide +kernel
theorem dX2_addPiece_23 : decode cX2_addPiece 23 = .ok (.getfield 23, 3) := by decide +kernel
theorem dX2_addPiece_26 : decode cX2_addPiece 26 = .ok (.invokevirtual 88, 3) := by decide +kernel
theorem dX2_addPiece_29 : decode cX2_addPiece 29 = .ok (.ifCond .eq 13, 3) := by decide +kernel
theorem dX2_addPiece_32 : decode cX2_addPiece 32 = .ok (.new 46, 3) := by decide +kernel
theorem dX2_addPiece_35 : decode cX2_addPiece 35 = .ok (.dup, 1) := by decide +kernel
theorem dX2_addPiece_36 : decode cX2_addPiece 36 = .ok (.ldc 91, 2) := by decide +kernel
theorem dX2_addPiece_38 : decode cX2_addPiece 38 = .ok (.invokespecial 50, 3) := by decide +kernel
theorem dX2_addPiece_41 : decode cX2_addPiece 41 = .ok (.athrow, 1) := by decide +kernel
theorem dX2_addPiece_42 : decode cX2_addPiece 42 = .ok (.aload_n 0, 1) := by decide +kernel
theorem dX2_addPiece_43 : decode cX2_addPiece 43 = .ok (.getfield 93, 3) := by decide +kernel
theorem dX2_addPiece_46 : decode cX2_addPiece 46 = .ok (.bipush 6, 2) := by decide +kernel
theorem dX2_addPiece_48 : decode cX2_addPiece 48 = .ok (.if_icmp .lt 13, 3) := by decide +kernel
theorem dX2_addPiece_51 : decode cX2_addPiece 51 = .ok (.new 46, 3) := by decide +kernel
theorem dX2_addPiece_54 : decode cX2_addPiece 54 = .ok (.dup, 1) := by decide +kernel
theorem dX2_addPiece_55 : decode cX2_addPiece 55 = .ok (.ldc 97, 2) := by decide +kernel
theorem dX2_addPiece_57 : decode cX2_addPiece 57 = .ok (.invokespecial 50, 3) := by decide +kernel
theorem dX2_addPiece_60 : decode cX2_addPiece 60 = .ok (.athrow, 1) := by decide +kernel
theorem dX2_addPiece_61 : decode cX2_addPiece 61 = .ok (.aload_n 0, 1) := by decide +kernel
theorem dX2_addPiece_62 : decode cX2_addPiece 62 = .ok (.getfield 93, 3) := by decide +kernel
theorem dX2_addPiece_65 : decode cX2_addPiece 65 = .ok (.istore_n 2, 1) := by decide +kernel
theorem dX2_addPiece_66 : decode cX2_addPiece 66 = .ok (.aload_n 0, 1) := by decide +kernel
theorem dX2_addPiece_67 : decode cX2_addPiece 67 = .ok (.getfield 23, 3) := by decide +kernel
theorem dX2_addPiece_70 : decode cX2_addPiece 70 = .ok (.iload_n 1, 1) := by decide +kernel
theorem dX2_addPiece_71 : decode cX2_addPiece 71 = .ok (.invokevirtual 99, 3) := by decide +kernel
theorem dX2_addPiece_74 : decode cX2_addPiece 74 = .ok (.aload_n 0, 1) := by decide +kernel
theorem dX2_addPiece_75 : decode cX2_addPiece 75 = .ok (.getfield 18, 3) := by decide +kernel
theorem dX2_addPiece_78 : decode cX2_addPiece 78 = .ok (.iload_n 2, 1) := by decide +kernel
theorem dX2_addPiece_79 : decode cX2_addPiece 79 = .ok (.aload_n 0, 1) := by decide +kernel
theorem dX2_addPiece_80 : decode cX2_addPiece 80 = .ok (.getfield 23, 3) := by decide +kernel
theorem dX2_addPiece_83 : decode cX2_addPiece 83 = .ok (.aastore, 1) := by decide +kernel
theorem dX2_addPiece_84 : decode cX2_addPiece 84 = .ok (.aload_n 0, 1) := by decide +kernel
theorem dX2_addPiece_85 : decode cX2_addPiece 85 = .ok (.dup, 1) := by decide +kernel
theorem dX2_addPiece_86 : decode cX2_addPiece 86 = .ok (.getfield 93, 3) := by decide +kernel
theorem dX2_addPiece_89 : decode cX2_addPiece 89 = .ok (.iconst 1, 1) := by decide +kernel
theorem dX2_addPiece_90 : decode cX2_addPiece 90 = .ok (.iadd, 1) := by decide +kernel
theorem dX2_addPiece_91 : decode cX2_addPiece 91 = .ok (.putfield 93, 3) := by decide +kernel
theorem dX2_addPiece_94 : decode cX2_addPiece 94 = .ok (.aload_n 0, 1) := by decide +kernel
theorem dX2_addPiece_95 : decode cX2_addPiece 95 = .ok (.new 16, 3) := by decide +kernel
theorem dX2_addPiece_98 : decode cX2_addPiece 98 = .ok (.dup, 1) := by decide +kernel
theorem dX2_addPiece_99 : decode cX2_addPiece 99 = .ok (.invokespecial 22, 3) := by decide +kernel
theorem dX2_addPiece_102 : decode cX2_addPiece 102 = .ok (.putfield 23, 3) := by decide +kernel
theorem dX2_addPiece_105 : decode cX2_addPiece 105 = .ok (.iload_n 2, 1) := by decide +kernel
theorem dX2_addPiece_106 : decode cX2_addPiece 106 = .ok (.ireturn, 1) := by decide +kernel
theorem dX2_setTone_0 : decode cX2_setTone 0 = .ok (.aload_n 0, 1) := by decide +kernel
theorem dX2_setTone_1 : decode cX2_setTone 1 = .ok (.iload_n 1, 1) := by decide +kernel
theorem dX2_setTone_2 : decode cX2_setTone 2 = .ok (.invokevirtual 102, 3) := by decide +kernel
theorem dX2_setTone_5 : decode cX2_setTone 5 = .ok (.astore 5, 2) := by decide +kernel
theorem dX2_setTone_7 : decode cX2_setTone 7 = .ok (.aload 5, 2) := by decide +kernel
theorem dX2_setTone_9 : decode cX2_setTone 9 = .ok (.iload_n 2, 1) := by decide +kernel
theorem dX2_setTone_10 : decode cX2_setTone 10 = .ok (.invokestatic 106, 3) := by decide +kernel
theorem dX2_setTone_13 : decode cX2_setTone 13 = .ok (.iload_n 3, 1) := by decide +kernel
theorem dX2_setTone_14 : decode cX2_setTone 14 = .ok (.invokestatic 27, 3) := by decide +kernel
theorem dX2_setTone_17 : decode cX2_setTone 17 = .ok (.iload 4, 2) := by decide +kernel
theorem dX2_setTone_19 : decode cX2_setTone 19 = .ok (.bipush 60, 2) := by decide +kernel
theorem dX2_setTone_21 : decode cX2_setTone 21 = .ok (.invokestatic 31, 3) := by decide +kernel
theorem dX2_setTone_24 : decode cX2_setTone 24 = .ok (.iload 4, 2) := by decide +kernel
theorem dX2_setTone_26 : decode cX2_setTone 26 = .ok (.aload 5, 2) := by decide +kernel
theorem dX2_setTone_28 : decode cX2_setTone 28 = .ok (.iload_n 2, 1) := by decide +kernel
theorem dX2_setTone_29 : decode cX2_setTone 29 = .ok (.iload_n 3, 1) := by decide +kernel
theorem dX2_setTone_30 : decode cX2_setTone 30 = .ok (.invokevirtual 110, 3) := by decide +kernel
theorem dX2_setTone_33 : decode cX2_setTone 33 = .ok (.if_icmp .gt 15, 3) := by decide +kernel
theorem dX2_setTone_36 : decode cX2_setTone 36 = .ok (.iload 4, 2) := by decide +kernel
theorem dX2_setTone_38 : decode cX2_setTone 38 = .ok (.aload 5, 2) := by decide +kernel
theorem dX2_setTone_40 : decode cX2_setTone 40 = .ok (.iload_n 2, 1) := by decide +kernel
theorem dX2_setTone_41 : decode cX2_setTone 41 = .ok (.iload_n 3, 1) := by decide +kernel
theorem dX2_setTone_42 : decode cX2_setTone 42 = .ok (.invokevirtual 113, 3) := by decide +kernel
theorem dX2_setTone_45 : decode cX2_setTone 45 = .ok (.if_icmp .ge 13, 3) := by decide +kernel
theorem dX2_setTone_48 : decode cX2_setTone 48 = .ok (.new 46, 3) := by decide +kernel
theorem dX2_setTone_51 : decode cX2_setTone 51 = .ok (.dup, 1) := by decide +kernel
theorem dX2_setTone_52 : decode cX2_setTone 52 = .ok (.ldc 116, 2) := by decide +kernel
theorem dX2_setTone_54 : decode cX2_setTone 54 = .ok (.invokespecial 50, 3) := by decide +kernel
theorem dX2_setTone_57 : decode cX2_setTone 57 = .ok (.athrow, 1) := by decide +kernel
theorem dX2_setTone_58 : decode cX2_setTone 58 = .ok (.aload 5, 2) := by decide +kernel
theorem dX2_setTone_60 : decode cX2_setTone 60 = .ok (.iload_n 2, 1) := by decide +kernel
theorem dX2_setTone_61 : decode cX2_setTone 61 = .ok (.iload_n 3, 1) := by decide +kernel
theorem dX2_setTone_62 : decode cX2_setTone 62 = .ok (.invokevirtual 118, 3) := by decide +kernel
theorem dX2_setTone_65 : decode cX2_setTone 65 = .ok (.istore 6, 2) := by decide +kernel
theorem dX2_setTone_67 : decode cX2_setTone 67 = .ok (.aload 5, 2) := by decide +kernel
theorem dX2_setTone_69 : decode cX2_setTone 69 = .ok (.iload_n 2, 1) := by decide +kernel
theorem dX2_setTone_70 : decode cX2_setTone 70 = .ok (.iload_n 3, 1) := by decide +kernel
theorem dX2_setTone_71 : decode cX2_setTone 71 = .ok (.iload 4, 2) := by decide +kernel
theorem dX2_setTone_73 : decode cX2_setTone 73 = .ok (.invokevirtual 121, 3) := by decide +kernel
theorem dX2_setTone_76 : decode cX2_setTone 76 = .ok (.iload 6, 2) := by decide +kernel
theorem dX2_setTone_78 : decode cX2_setTone 78 = .ok (.ireturn, 1) := by decide +kernel
theorem dX2_faultsAt_0 : decode cX2_faultsAt 0 = .ok (.aload_n 0, 1) := by decide +kernel
theorem dX2_faultsAt_1 : decode cX2_faultsAt 1 = .ok (.iload_n 1, 1) := by decide +kernel
theorem dX2_faultsAt_2 : decode cX2_faultsAt 2 = .ok (.invokevirtual 102, 3) := by decide +kernel
theorem dX2_faultsAt_5 : decode cX2_faultsAt 5 = .ok (.astore_n 3, 1) := by decide +kernel
theorem dX2_faultsAt_6 : decode cX2_faultsAt 6 = .ok (.aload_n 3, 1) := by decide +kernel
theorem dX2_faultsAt_7 : decode cX2_faultsAt 7 = .ok (.iload_n 2, 1) := by decide +kernel
theorem dX2_faultsAt_8 : decode cX2_faultsAt 8 = .ok (.invokestatic 106, 3) := by decide +kernel
theorem dX2_faultsAt_11 : decode cX2_faultsAt 11 = .ok (.aload_n 3, 1) := by decide +kernel
theorem dX2_faultsAt_12 : decode cX2_faultsAt 12 = .ok (.iload_n 2, 1) := by decide +kernel
theorem dX2_faultsAt_13 : decode cX2_faultsAt 13 = .ok (.invokevirtual 125, 3) := by decide +kernel
theorem dX2_faultsAt_16 : decode cX2_faultsAt 16 = .ok (.ireturn, 1) := by decide +kernel
theorem dX2_faults_0 : decode cX2_faults 0 = .ok (.aload_n 0, 1) := by decide +kernel
theorem dX2_faults_1 : decode cX2_faults 1 = .ok (.iload_n 1, 1) := by decide +kernel
theorem dX2_faults_2 : decode cX2_faults 2 = .ok (.invokevirtual 102, 3) := by decide +kernel
theorem dX2_faults_5 : decode cX2_faults 5 = .ok (.invokevirtual 129, 3) := by decide +kernel
theorem dX2_faults_8 : decode cX2_faults 8 = .ok (.ireturn, 1) := by decide +kernel
theorem dX2_leastFaults_0 : decode cX2_leastFaults 0 = .ok (.aload_n 0, 1) := by decide +kernel
theorem dX2_leastFaults_1 : decode cX2_leastFaults 1 = .ok (.iload_n 1, 1) := by decide +kernel
theorem dX2_leastFaults_2 : decode cX2_leastFaults 2 = .ok (.invokevirtual 102, 3) := by decide +kernel
theorem dX2_leastFaults_5 : decode cX2_leastFaults 5 = .ok (.astore 4, 2) := by decide +kernel
theorem dX2_leastFaults_7 : decode cX2_leastFaults 7 = .ok (.aload 4, 2) := by decide +kernel
theorem dX2_leastFaults_9 : decode cX2_leastFaults 9 = .ok (.iload_n 2, 1) := by decide +kernel
theorem dX2_leastFaults_10 : decode cX2_leastFaults 10 = .ok (.invokestatic 106, 3) := by decide +kernel
theorem dX2_leastFaults_13 : decode cX2_leastFaults 13 = .ok (.iload_n 2, 1) := by decide +kernel
theorem dX2_leastFaults_14 : decode cX2_leastFaults 14 = .ok (.ifCond .eq 12, 3) := by decide +kernel
theorem dX2_leastFaults_17 : decode cX2_leastFaults 17 = .ok (.aload 4, 2) := by decide +kernel
theorem dX2_leastFaults_19 : decode cX2_leastFaults 19 = .ok (.iload_n 2, 1) := by decide +kernel
theorem dX2_leastFaults_20 : decode cX2_leastFaults 20 = .ok (.invokevirtual 133, 3) := by decide +kernel
theorem dX2_leastFaults_23 : decode cX2_leastFaults 23 = .ok (.ifCond .eq 13, 3) := by decide +kernel
theorem dX2_leastFaults_26 : decode cX2_leastFaults 26 = .ok (.new 137, 3) := by decide +kernel
theorem dX2_leastFaults_29 : decode cX2_leastFaults 29 = .ok (.dup, 1) := by decide +kernel
theorem dX2_leastFaults_30 : decode cX2_leastFaults 30 = .ok (.ldc 139, 2) := by decide +kernel
theorem dX2_leastFaults_32 : decode cX2_leastFaults 32 = .ok (.invokespecial 141, 3) := by decide +kernel
theorem dX2_leastFaults_35 : decode cX2_leastFaults 35 = .ok (.athrow, 1) := by decide +kernel
theorem dX2_leastFaults_36 : decode cX2_leastFaults 36 = .ok (.iload_n 3, 1) := by decide +kernel
theorem dX2_leastFaults_37 : decode cX2_leastFaults 37 = .ok (.invokestatic 27, 3) := by decide +kernel
theorem dX2_leastFaults_40 : decode cX2_leastFaults 40 = .ok (.aload 4, 2) := by decide +kernel
theorem dX2_leastFaults_42 : decode cX2_leastFaults 42 = .ok (.iload_n 2, 1) := by decide +kernel
theorem dX2_leastFaults_43 : decode cX2_leastFaults 43 = .ok (.iload_n 3, 1) := by decide +kernel
theorem dX2_leastFaults_44 : decode cX2_leastFaults 44 = .ok (.invokevirtual 142, 3) := by decide +kernel
theorem dX2_leastFaults_47 : decode cX2_leastFaults 47 = .ok (.ireturn, 1) := by decide +kernel
theorem dX2_shift_0 : decode cX2_shift 0 = .ok (.aload_n 0, 1) := by decide +kernel
theorem dX2_shift_1 : decode cX2_shift 1 = .ok (.iload_n 1, 1) := by decide +kernel
theorem dX2_shift_2 : decode cX2_shift 2 = .ok (.invokevirtual 102, 3) := by decide +kernel
theorem dX2_shift_5 : decode cX2_shift 5 = .ok (.astore_n 3, 1) := by decide +kernel
theorem dX2_shift_6 : decode cX2_shift 6 = .ok (.iload_n 2, 1) := by decide +kernel
theorem dX2_shift_7 : decode cX2_shift 7 = .ok (.invokestatic 58, 3) := by decide +kernel
theorem dX2_shift_10 : decode cX2_shift 10 = .ok (.aload_n 0, 1) := by decide +kernel
theorem dX2_shift_11 : decode cX2_shift 11 = .ok (.aload_n 3, 1) := by decide +kernel
theorem dX2_shift_12 : decode cX2_shift 12 = .ok (.iload_n 2, 1) := by decide +kernel
theorem dX2_shift_13 : decode cX2_shift 13 = .ok (.invokevirtual 145, 3) := by decide +kernel
theorem dX2_shift_16 : decode cX2_shift 16 = .ok (.istore 4, 2) := by decide +kernel
theorem dX2_shift_18 : decode cX2_shift 18 = .ok (.iload 4, 2) := by decide +kernel
theorem dX2_shift_20 : decode cX2_shift 20 = .ok (.bipush 13, 2) := by decide +kernel
theorem dX2_shift_22 : decode cX2_shift 22 = .ok (.if_icmp .ne 13, 3) := by decide +kernel
theorem dX2_shift_25 : decode cX2_shift 25 = .ok (.new 46, 3) := by decide +kernel
theorem dX2_shift_28 : decode cX2_shift 28 = .ok (.dup, 1) := by decide +kernel
theorem dX2_shift_29 : decode cX2_shift 29 = .ok (.ldc 149, 2) := by decide +kernel
theorem dX2_shift_31 : decode cX2_shift 31 = .ok (.invokespecial 50, 3) := by decide +kernel
theorem dX2_shift_34 : decode cX2_shift 34 = .ok (.athrow, 1) := by decide +kernel
theorem dX2_shift_35 : decode cX2_shift 35 = .ok (.iload 4, 2) := by decide +kernel
theorem dX2_shift_37 : decode cX2_shift 37 = .ok (.ireturn, 1) := by decide +kernel
theorem dX2_dates_0 : decode cX2_dates 0 = .ok (.aload_n 0, 1) := by decide +kernel
theorem dX2_dates_1 : decode cX2_dates 1 = .ok (.iload_n 1, 1) := by decide +kernel
theorem dX2_dates_2 : decode cX2_dates 2 = .ok (.invokevirtual 102, 3) := by decide +kernel
theorem dX2_dates_5 : decode cX2_dates 5 = .ok (.astore_n 2, 1) := by decide +kernel
theorem dX2_dates_6 : decode cX2_dates 6 = .ok (.iconst 0, 1) := by decide +kernel
theorem dX2_dates_7 : decode cX2_dates 7 = .ok (.istore_n 3, 1) := by decide +kernel
theorem dX2_dates_8 : decode cX2_dates 8 = .ok (.iconst 0, 1) := by decide +kernel
theorem dX2_dates_9 : decode cX2_dates 9 = .ok (.istore 4, 2) := by decide +kernel
theorem dX2_dates_11 : decode cX2_dates 11 = .ok (.iload 4, 2) := by decide +kernel
theorem dX2_dates_13 : decode cX2_dates 13 = .ok (.bipush 31, 2) := by decide +kernel
theorem dX2_dates_15 : decode cX2_dates 15 = .ok (.if_icmp .ge 24, 3) := by decide +kernel
theorem dX2_dates_18 : decode cX2_dates 18 = .ok (.aload_n 0, 1) := by decide +kernel
theorem dX2_dates_19 : decode cX2_dates 19 = .ok (.aload_n 2, 1) := by decide +kernel
theorem dX2_dates_20 : decode cX2_dates 20 = .ok (.iload 4, 2) := by decide +kernel
theorem dX2_dates_22 : decode cX2_dates 22 = .ok (.invokevirtual 145, 3) := by decide +kernel
theorem dX2_dates_25 : decode cX2_dates 25 = .ok (.bipush 13, 2) := by decide +kernel
theorem dX2_dates_27 : decode cX2_dates 27 = .ok (.if_icmp .eq 6, 3) := by decide +kernel
theorem dX2_dates_30 : decode cX2_dates 30 = .ok (.iinc 3 1, 3) := by decide +kernel
theorem dX2_dates_33 : decode cX2_dates 33 = .ok (.iinc 4 1, 3) := by decide +kernel
theorem dX2_dates_36 : decode cX2_dates 36 = .ok (.goto (-25), 3) := by decide +kernel
theorem dX2_dates_39 : decode cX2_dates 39 = .ok (.iload_n 3, 1) := by decide +kernel
theorem dX2_dates_40 : decode cX2_dates 40 = .ok (.ireturn, 1) := by decide +kernel
theorem dX2_missed_0 : decode cX2_missed 0 = .ok (.iload_n 1, 1) := by decide +kernel
theorem dX2_missed_1 : decode cX2_missed 1 = .ok (.invokestatic 58, 3) := by decide +kernel
theorem dX2_missed_4 : decode cX2_missed 4 = .ok (.aload_n 0, 1) := by decide +kernel
theorem dX2_missed_5 : decode cX2_missed 5 = .ok (.getfield 12, 3) := by decide +kernel
theorem dX2_missed_8 : decode cX2_missed 8 = .ok (.iload_n 1, 1) := by decide +kernel
theorem dX2_missed_9 : decode cX2_missed 9 = .ok (.invokevirtual 151, 3) := by decide +kernel
theorem dX2_missed_12 : decode cX2_missed 12 = .ok (.ireturn, 1) := by decide +kernel
theorem dX2_programme_0 : decode cX2_programme 0 = .ok (.iload_n 1, 1) := by decide +kernel
theorem dX2_programme_1 : decode cX2_programme 1 = .ok (.invokestatic 58, 3) := by decide +kernel
theorem dX2_programme_4 : decode cX2_programme 4 = .ok (.iload_n 2, 1) := by decide +kernel
theorem dX2_programme_5 : decode cX2_programme 5 = .ok (.invokestatic 154, 3) := by decide +kernel
theorem dX2_programme_8 : decode cX2_programme 8 = .ok (.aload_n 0, 1) := by decide +kernel
theorem dX2_programme_9 : decode cX2_programme 9 = .ok (.iload_n 1, 1) := by decide +kernel
theorem dX2_programme_10 : decode cX2_programme 10 = .ok (.iload_n 2, 1) := by decide +kernel
theorem dX2_programme_11 : decode cX2_programme 11 = .ok (.invokevirtual 157, 3) := by decide +kernel
theorem dX2_programme_14 : decode cX2_programme 14 = .ok (.ireturn, 1) := by decide +kernel
theorem dX2_duration_0 : decode cX2_duration 0 = .ok (.iload_n 1, 1) := by decide +kernel
theorem dX2_duration_1 : decode cX2_duration 1 = .ok (.invokestatic 58, 3) := by decide +kernel
theorem dX2_duration_4 : decode cX2_duration 4 = .ok (.iload_n 2, 1) := by decide +kernel
theorem dX2_duration_5 : decode cX2_duration 5 = .ok (.invokestatic 154, 3) := by decide +kernel
theorem dX2_duration_8 : decode cX2_duration 8 = .ok (.aload_n 0, 1) := by decide +kernel
theorem dX2_duration_9 : decode cX2_duration 9 = .ok (.aload_n 0, 1) := by decide +kernel
theorem dX2_duration_10 : decode cX2_duration 10 = .ok (.iload_n 1, 1) := by decide +kernel
theorem dX2_duration_11 : decode cX2_duration 11 = .ok (.iload_n 2, 1) := by decide +kernel
theorem dX2_duration_12 : decode cX2_duration 12 = .ok (.invokevirtual 157, 3) := by decide +kernel
theorem dX2_duration_15 : decode cX2_duration 15 = .ok (.invokevirtual 160, 3) := by decide +kernel
theorem dX2_duration_18 : decode cX2_duration 18 = .ok (.ireturn, 1) := by decide +kernel
theorem dX2_rehearse_0 : decode cX2_rehearse 0 = .ok (.aload_n 0, 1) := by decide +kernel
theorem dX2_rehearse_1 : decode cX2_rehearse 1 = .ok (.iload_n 1, 1) := by decide +kernel
theorem dX2_rehearse_2 : decode cX2_rehearse 2 = .ok (.invokevirtual 102, 3) := by decide +kernel
theorem dX2_rehearse_5 : decode cX2_rehearse 5 = .ok (.astore_n 3, 1) := by decide +kernel
theorem dX2_rehearse_6 : decode cX2_rehearse 6 = .ok (.iload_n 2, 1) := by decide +kernel
theorem dX2_rehearse_7 : decode cX2_rehearse 7 = .ok (.iconst 1, 1) := by decide +kernel
theorem dX2_rehearse_8 : decode cX2_rehearse 8 = .ok (.if_icmp .lt 9, 3) := by decide +kernel
theorem dX2_rehearse_11 : decode cX2_rehearse 11 = .ok (.iload_n 2, 1) := by decide +kernel
theorem dX2_rehearse_12 : decode cX2_rehearse 12 = .ok (.bipush 30, 2) := by decide +kernel
theorem dX2_rehearse_14 : decode cX2_rehearse 14 = .ok (.if_icmp .le 13, 3) := by decide +kernel
theorem dX2_rehearse_17 : decode cX2_rehearse 17 = .ok (.new 35, 3) := by decide +kernel
theorem dX2_rehearse_20 : decode cX2_rehearse 20 = .ok (.dup, 1) := by decide +kernel
theorem dX2_rehearse_21 : decode cX2_rehearse 21 = .ok (.ldc 163, 2) := by decide +kernel
theorem dX2_rehearse_23 : decode cX2_rehearse 23 = .ok (.invokespecial 39, 3) := by decide +kernel
theorem dX2_rehearse_26 : decode cX2_rehearse 26 = .ok (.athrow, 1) := by decide +kernel
theorem dX2_rehearse_27 : decode cX2_rehearse 27 = .ok (.iconst 0, 1) := by decide +kernel
theorem dX2_rehearse_28 : decode cX2_rehearse 28 = .ok (.istore 4, 2) := by decide +kernel
theorem dX2_rehearse_30 : decode cX2_rehearse 30 = .ok (.iload 4, 2) := by decide +kernel
theorem dX2_rehearse_32 : decode cX2_rehearse 32 = .ok (.iload_n 2, 1) := by decide +kernel
theorem dX2_rehearse_33 : decode cX2_rehearse 33 = .ok (.if_icmp .ge 13, 3) := by decide +kernel
theorem dX2_rehearse_36 : decode cX2_rehearse 36 = .ok (.aload_n 3, 1) := by decide +kernel
theorem dX2_rehearse_37 : decode cX2_rehearse 37 = .ok (.invokevirtual 165, 3) := by decide +kernel
theorem dX2_rehearse_40 : decode cX2_rehearse 40 = .ok (.iinc 4 1, 3) := by decide +kernel
theorem dX2_rehearse_43 : decode cX2_rehearse 43 = .ok (.goto (-13), 3) := by decide +kernel
theorem dX2_rehearse_46 : decode cX2_rehearse 46 = .ok (.aload_n 3, 1) := by decide +kernel
theorem dX2_rehearse_47 : decode cX2_rehearse 47 = .ok (.invokevirtual 168, 3) := by decide +kernel
end
section
theorem dX2_rehearse_50 : decode cX2_rehearse 50 = .ok (.ireturn, 1) := by decide +kernel
theorem dX2_weakness_0 : decode cX2_weakness 0 = .ok (.aload_n 0, 1) := by decide +kernel
theorem dX2_weakness_1 : decode cX2_weakness 1 = .ok (.iload_n 1, 1) := by decide +kernel
theorem dX2_weakness_2 : decode cX2_weakness 2 = .ok (.invokevirtual 102, 3) := by decide +kernel
theorem dX2_weakness_5 : decode cX2_weakness 5 = .ok (.astore_n 3, 1) := by decide +kernel
theorem dX2_weakness_6 : decode cX2_weakness 6 = .ok (.aload_n 3, 1) := by decide +kernel
theorem dX2_weakness_7 : decode cX2_weakness 7 = .ok (.iload_n 2, 1) := by decide +kernel
theorem dX2_weakness_8 : decode cX2_weakness 8 = .ok (.invokestatic 106, 3) := by decide +kernel
theorem dX2_weakness_11 : decode cX2_weakness 11 = .ok (.aload_n 3, 1) := by decide +kernel
theorem dX2_weakness_12 : decode cX2_weakness 12 = .ok (.iload_n 2, 1) := by decide +kernel
theorem dX2_weakness_13 : decode cX2_weakness 13 = .ok (.invokevirtual 171, 3) := by decide +kernel
theorem dX2_weakness_16 : decode cX2_weakness 16 = .ok (.ireturn, 1) := by decide +kernel
theorem dX2_weakest_0 : decode cX2_weakest 0 = .ok (.aload_n 0, 1) := by decide +kernel
theorem dX2_weakest_1 : decode cX2_weakest 1 = .ok (.iload_n 1, 1) := by decide +kernel
theorem dX2_weakest_2 : decode cX2_weakest 2 = .ok (.invokevirtual 102, 3) := by decide +kernel
theorem dX2_weakest_5 : decode cX2_weakest 5 = .ok (.invokevirtual 174, 3) := by decide +kernel
theorem dX2_weakest_8 : decode cX2_weakest 8 = .ok (.ireturn, 1) := by decide +kernel
theorem dX2_checkVoice_0 : decode cX2_checkVoice 0 = .ok (.iload_n 0, 1) := by decide +kernel
theorem dX2_checkVoice_1 : decode cX2_checkVoice 1 = .ok (.ifCond .lt 8, 3) := by decide +kernel
theorem dX2_checkVoice_4 : decode cX2_checkVoice 4 = .ok (.iload_n 0, 1) := by decide +kernel
theorem dX2_checkVoice_5 : decode cX2_checkVoice 5 = .ok (.iconst 4, 1) := by decide +kernel
theorem dX2_checkVoice_6 : decode cX2_checkVoice 6 = .ok (.if_icmp .lt 13, 3) := by decide +kernel
theorem dX2_checkVoice_9 : decode cX2_checkVoice 9 = .ok (.new 35, 3) := by decide +kernel
theorem dX2_checkVoice_12 : decode cX2_checkVoice 12 = .ok (.dup, 1) := by decide +kernel
theorem dX2_checkVoice_13 : decode cX2_checkVoice 13 = .ok (.ldc 177, 2) := by decide +kernel
theorem dX2_checkVoice_15 : decode cX2_checkVoice 15 = .ok (.invokespecial 39, 3) := by decide +kernel
theorem dX2_checkVoice_18 : decode cX2_checkVoice 18 = .ok (.athrow, 1) := by decide +kernel
theorem dX2_checkVoice_19 : decode cX2_checkVoice 19 = .ok (.return_, 1) := by decide +kernel
theorem dX2_checkTone_0 : decode cX2_checkTone 0 = .ok (.iload_n 0, 1) := by decide +kernel
theorem dX2_checkTone_1 : decode cX2_checkTone 1 = .ok (.ifCond .lt 8, 3) := by decide +kernel
theorem dX2_checkTone_4 : decode cX2_checkTone 4 = .ok (.iload_n 0, 1) := by decide +kernel
theorem dX2_checkTone_5 : decode cX2_checkTone 5 = .ok (.iload_n 1, 1) := by decide +kernel
theorem dX2_checkTone_6 : decode cX2_checkTone 6 = .ok (.if_icmp .le 13, 3) := by decide +kernel
theorem dX2_checkTone_9 : decode cX2_checkTone 9 = .ok (.new 35, 3) := by decide +kernel
theorem dX2_checkTone_12 : decode cX2_checkTone 12 = .ok (.dup, 1) := by decide +kernel
theorem dX2_checkTone_13 : decode cX2_checkTone 13 = .ok (.ldc 179, 2) := by decide +kernel
theorem dX2_checkTone_15 : decode cX2_checkTone 15 = .ok (.invokespecial 39, 3) := by decide +kernel
theorem dX2_checkTone_18 : decode cX2_checkTone 18 = .ok (.athrow, 1) := by decide +kernel
theorem dX2_checkTone_19 : decode cX2_checkTone 19 = .ok (.return_, 1) := by decide +kernel
theorem dX2_checkDate_0 : decode cX2_checkDate 0 = .ok (.iload_n 0, 1) := by decide +kernel
theorem dX2_checkDate_1 : decode cX2_checkDate 1 = .ok (.ifCond .lt 9, 3) := by decide +kernel
theorem dX2_checkDate_4 : decode cX2_checkDate 4 = .ok (.iload_n 0, 1) := by decide +kernel
theorem dX2_checkDate_5 : decode cX2_checkDate 5 = .ok (.bipush 31, 2) := by decide +kernel
theorem dX2_checkDate_7 : decode cX2_checkDate 7 = .ok (.if_icmp .lt 13, 3) := by decide +kernel
theorem dX2_checkDate_10 : decode cX2_checkDate 10 = .ok (.new 35, 3) := by decide +kernel
theorem dX2_checkDate_13 : decode cX2_checkDate 13 = .ok (.dup, 1) := by decide +kernel
theorem dX2_checkDate_14 : decode cX2_checkDate 14 = .ok (.ldc 181, 2) := by decide +kernel
theorem dX2_checkDate_16 : decode cX2_checkDate 16 = .ok (.invokespecial 39, 3) := by decide +kernel
theorem dX2_checkDate_19 : decode cX2_checkDate 19 = .ok (.athrow, 1) := by decide +kernel
theorem dX2_checkDate_20 : decode cX2_checkDate 20 = .ok (.return_, 1) := by decide +kernel
theorem dX2_checkTime_0 : decode cX2_checkTime 0 = .ok (.iload_n 0, 1) := by decide +kernel
theorem dX2_checkTime_1 : decode cX2_checkTime 1 = .ok (.ifCond .lt 10, 3) := by decide +kernel
theorem dX2_checkTime_4 : decode cX2_checkTime 4 = .ok (.iload_n 0, 1) := by decide +kernel
theorem dX2_checkTime_5 : decode cX2_checkTime 5 = .ok (.sipush 20000, 3) := by decide +kernel
theorem dX2_checkTime_8 : decode cX2_checkTime 8 = .ok (.if_icmp .le 13, 3) := by decide +kernel
theorem dX2_checkTime_11 : decode cX2_checkTime 11 = .ok (.new 35, 3) := by decide +kernel
theorem dX2_checkTime_14 : decode cX2_checkTime 14 = .ok (.dup, 1) := by decide +kernel
theorem dX2_checkTime_15 : decode cX2_checkTime 15 = .ok (.ldc 183, 2) := by decide +kernel
theorem dX2_checkTime_17 : decode cX2_checkTime 17 = .ok (.invokespecial 39, 3) := by decide +kernel
theorem dX2_checkTime_20 : decode cX2_checkTime 20 = .ok (.athrow, 1) := by decide +kernel
theorem dX2_checkTime_21 : decode cX2_checkTime 21 = .ok (.return_, 1) := by decide +kernel
theorem dX2_checkSinger_0 : decode cX2_checkSinger 0 = .ok (.aload_n 0, 1) := by decide +kernel
theorem dX2_checkSinger_1 : decode cX2_checkSinger 1 = .ok (.getfield 12, 3) := by decide +kernel
theorem dX2_checkSinger_4 : decode cX2_checkSinger 4 = .ok (.iload_n 1, 1) := by decide +kernel
theorem dX2_checkSinger_5 : decode cX2_checkSinger 5 = .ok (.invokevirtual 185, 3) := by decide +kernel
theorem dX2_checkSinger_8 : decode cX2_checkSinger 8 = .ok (.ifCond .ne 13, 3) := by decide +kernel
theorem dX2_checkSinger_11 : decode cX2_checkSinger 11 = .ok (.new 137, 3) := by decide +kernel
theorem dX2_checkSinger_14 : decode cX2_checkSinger 14 = .ok (.dup, 1) := by decide +kernel
theorem dX2_checkSinger_15 : decode cX2_checkSinger 15 = .ok (.ldc 188, 2) := by decide +kernel
theorem dX2_checkSinger_17 : decode cX2_checkSinger 17 = .ok (.invokespecial 141, 3) := by decide +kernel
theorem dX2_checkSinger_20 : decode cX2_checkSinger 20 = .ok (.athrow, 1) := by decide +kernel
theorem dX2_checkSinger_21 : decode cX2_checkSinger 21 = .ok (.return_, 1) := by decide +kernel
theorem dX2_checkChord_0 : decode cX2_checkChord 0 = .ok (.aload_n 0, 1) := by decide +kernel
theorem dX2_checkChord_1 : decode cX2_checkChord 1 = .ok (.iload_n 1, 1) := by decide +kernel
theorem dX2_checkChord_2 : decode cX2_checkChord 2 = .ok (.invokevirtual 190, 3) := by decide +kernel
theorem dX2_checkChord_5 : decode cX2_checkChord 5 = .ok (.ifCond .ne 13, 3) := by decide +kernel
theorem dX2_checkChord_8 : decode cX2_checkChord 8 = .ok (.new 137, 3) := by decide +kernel
theorem dX2_checkChord_11 : decode cX2_checkChord 11 = .ok (.dup, 1) := by decide +kernel
theorem dX2_checkChord_12 : decode cX2_checkChord 12 = .ok (.ldc 191, 2) := by decide +kernel
theorem dX2_checkChord_14 : decode cX2_checkChord 14 = .ok (.invokespecial 141, 3) := by decide +kernel
theorem dX2_checkChord_17 : decode cX2_checkChord 17 = .ok (.athrow, 1) := by decide +kernel
theorem dX2_checkChord_18 : decode cX2_checkChord 18 = .ok (.return_, 1) := by decide +kernel
theorem dX2_pieceAt_0 : decode cX2_pieceAt 0 = .ok (.iload_n 1, 1) := by decide +kernel
theorem dX2_pieceAt_1 : decode cX2_pieceAt 1 = .ok (.ifCond .lt 20, 3) := by decide +kernel
theorem dX2_pieceAt_4 : decode cX2_pieceAt 4 = .ok (.iload_n 1, 1) := by decide +kernel
theorem dX2_pieceAt_5 : decode cX2_pieceAt 5 = .ok (.aload_n 0, 1) := by decide +kernel
theorem dX2_pieceAt_6 : decode cX2_pieceAt 6 = .ok (.getfield 93, 3) := by decide +kernel
theorem dX2_pieceAt_9 : decode cX2_pieceAt 9 = .ok (.if_icmp .ge 12, 3) := by decide +kernel
theorem dX2_pieceAt_12 : decode cX2_pieceAt 12 = .ok (.aload_n 0, 1) := by decide +kernel
theorem dX2_pieceAt_13 : decode cX2_pieceAt 13 = .ok (.getfield 18, 3) := by decide +kernel
theorem dX2_pieceAt_16 : decode cX2_pieceAt 16 = .ok (.iload_n 1, 1) := by decide +kernel
theorem dX2_pieceAt_17 : decode cX2_pieceAt 17 = .ok (.aaload, 1) := by decide +kernel
theorem dX2_pieceAt_18 : decode cX2_pieceAt 18 = .ok (.goto 4, 3) := by decide +kernel
theorem dX2_pieceAt_21 : decode cX2_pieceAt 21 = .ok (.aconst_null, 1) := by decide +kernel
theorem dX2_pieceAt_22 : decode cX2_pieceAt 22 = .ok (.astore_n 2, 1) := by decide +kernel
theorem dX2_pieceAt_23 : decode cX2_pieceAt 23 = .ok (.aload_n 2, 1) := by decide +kernel
theorem dX2_pieceAt_24 : decode cX2_pieceAt 24 = .ok (.ifnonnull 13, 3) := by decide +kernel
theorem dX2_pieceAt_27 : decode cX2_pieceAt 27 = .ok (.new 137, 3) := by decide +kernel
theorem dX2_pieceAt_30 : decode cX2_pieceAt 30 = .ok (.dup, 1) := by decide +kernel
theorem dX2_pieceAt_31 : decode cX2_pieceAt 31 = .ok (.ldc 193, 2) := by decide +kernel
theorem dX2_pieceAt_33 : decode cX2_pieceAt 33 = .ok (.invokespecial 141, 3) := by decide +kernel
theorem dX2_pieceAt_36 : decode cX2_pieceAt 36 = .ok (.athrow, 1) := by decide +kernel
theorem dX2_pieceAt_37 : decode cX2_pieceAt 37 = .ok (.aload_n 2, 1) := by decide +kernel
theorem dX2_pieceAt_38 : decode cX2_pieceAt 38 = .ok (.areturn, 1) := by decide +kernel
theorem dX2_nearestShift_0 : decode cX2_nearestShift 0 = .ok (.bipush (-12), 2) := by decide +kernel
theorem dX2_nearestShift_2 : decode cX2_nearestShift 2 = .ok (.istore_n 3, 1) := by decide +kernel
theorem dX2_nearestShift_3 : decode cX2_nearestShift 3 = .ok (.bipush 12, 2) := by decide +kernel
theorem dX2_nearestShift_5 : decode cX2_nearestShift 5 = .ok (.istore 4, 2) := by decide +kernel
theorem dX2_nearestShift_7 : decode cX2_nearestShift 7 = .ok (.iconst 0, 1) := by decide +kernel
theorem dX2_nearestShift_8 : decode cX2_nearestShift 8 = .ok (.istore 5, 2) := by decide +kernel
theorem dX2_nearestShift_10 : decode cX2_nearestShift 10 = .ok (.iload 5, 2) := by decide +kernel
theorem dX2_nearestShift_12 : decode cX2_nearestShift 12 = .ok (.iconst 4, 1) := by decide +kernel
theorem dX2_nearestShift_13 : decode cX2_nearestShift 13 = .ok (.if_icmp .ge 55, 3) := by decide +kernel
theorem dX2_nearestShift_16 : decode cX2_nearestShift 16 = .ok (.iload_n 3, 1) := by decide +kernel
theorem dX2_nearestShift_17 : decode cX2_nearestShift 17 = .ok (.aload_n 0, 1) := by decide +kernel
theorem dX2_nearestShift_18 : decode cX2_nearestShift 18 = .ok (.getfield 12, 3) := by decide +kernel
theorem dX2_nearestShift_21 : decode cX2_nearestShift 21 = .ok (.iload 5, 2) := by decide +kernel
theorem dX2_nearestShift_23 : decode cX2_nearestShift 23 = .ok (.iload_n 2, 1) := by decide +kernel
theorem dX2_nearestShift_24 : decode cX2_nearestShift 24 = .ok (.invokevirtual 73, 3) := by decide +kernel
theorem dX2_nearestShift_27 : decode cX2_nearestShift 27 = .ok (.aload_n 1, 1) := by decide +kernel
theorem dX2_nearestShift_28 : decode cX2_nearestShift 28 = .ok (.iload 5, 2) := by decide +kernel
theorem dX2_nearestShift_30 : decode cX2_nearestShift 30 = .ok (.invokevirtual 195, 3) := by decide +kernel
theorem dX2_nearestShift_33 : decode cX2_nearestShift 33 = .ok (.isub, 1) := by decide +kernel
theorem dX2_nearestShift_34 : decode cX2_nearestShift 34 = .ok (.invokestatic 198, 3) := by decide +kernel
theorem dX2_nearestShift_37 : decode cX2_nearestShift 37 = .ok (.istore_n 3, 1) := by decide +kernel
theorem dX2_nearestShift_38 : decode cX2_nearestShift 38 = .ok (.iload 4, 2) := by decide +kernel
theorem dX2_nearestShift_40 : decode cX2_nearestShift 40 = .ok (.aload_n 0, 1) := by decide +kernel
theorem dX2_nearestShift_41 : decode cX2_nearestShift 41 = .ok (.getfield 12, 3) := by decide +kernel
theorem dX2_nearestShift_44 : decode cX2_nearestShift 44 = .ok (.iload 5, 2) := by decide +kernel
theorem dX2_nearestShift_46 : decode cX2_nearestShift 46 = .ok (.iload_n 2, 1) := by decide +kernel
theorem dX2_nearestShift_47 : decode cX2_nearestShift 47 = .ok (.invokevirtual 76, 3) := by decide +kernel
theorem dX2_nearestShift_50 : decode cX2_nearestShift 50 = .ok (.aload_n 1, 1) := by decide +kernel
theorem dX2_nearestShift_51 : decode cX2_nearestShift 51 = .ok (.iload 5, 2) := by decide +kernel
theorem dX2_nearestShift_53 : decode cX2_nearestShift 53 = .ok (.invokevirtual 203, 3) := by decide +kernel
theorem dX2_nearestShift_56 : decode cX2_nearestShift 56 = .ok (.isub, 1) := by decide +kernel
theorem dX2_nearestShift_57 : decode cX2_nearestShift 57 = .ok (.invokestatic 206, 3) := by decide +kernel
theorem dX2_nearestShift_60 : decode cX2_nearestShift 60 = .ok (.istore 4, 2) := by decide +kernel
theorem dX2_nearestShift_62 : decode cX2_nearestShift 62 = .ok (.iinc 5 1, 3) := by decide +kernel
theorem dX2_nearestShift_65 : decode cX2_nearestShift 65 = .ok (.goto (-55), 3) := by decide +kernel
theorem dX2_nearestShift_68 : decode cX2_nearestShift 68 = .ok (.iload_n 3, 1) := by decide +kernel
theorem dX2_nearestShift_69 : decode cX2_nearestShift 69 = .ok (.iload 4, 2) := by decide +kernel
theorem dX2_nearestShift_71 : decode cX2_nearestShift 71 = .ok (.if_icmp .le 8, 3) := by decide +kernel
theorem dX2_nearestShift_74 : decode cX2_nearestShift 74 = .ok (.bipush 13, 2) := by decide +kernel
theorem dX2_nearestShift_76 : decode cX2_nearestShift 76 = .ok (.goto 13, 3) := by decide +kernel
theorem dX2_nearestShift_79 : decode cX2_nearestShift 79 = .ok (.iload_n 3, 1) := by decide +kernel
theorem dX2_nearestShift_80 : decode cX2_nearestShift 80 = .ok (.iload 4, 2) := by decide +kernel
theorem dX2_nearestShift_82 : decode cX2_nearestShift 82 = .ok (.iconst 0, 1) := by decide +kernel
theorem dX2_nearestShift_83 : decode cX2_nearestShift 83 = .ok (.invokestatic 206, 3) := by decide +kernel
theorem dX2_nearestShift_86 : decode cX2_nearestShift 86 = .ok (.invokestatic 198, 3) := by decide +kernel
theorem dX2_nearestShift_89 : decode cX2_nearestShift 89 = .ok (.ireturn, 1) := by decide +kernel
theorem dX2_bestSet_0 : decode cX2_bestSet 0 = .ok (.aload_n 0, 1) := by decide +kernel
theorem dX2_bestSet_1 : decode cX2_bestSet 1 = .ok (.iload_n 1, 1) := by decide +kernel
theorem dX2_bestSet_2 : decode cX2_bestSet 2 = .ok (.invokevirtual 209, 3) := by decide +kernel
theorem dX2_bestSet_5 : decode cX2_bestSet 5 = .ok (.istore_n 3, 1) := by decide +kernel
theorem dX2_bestSet_6 : decode cX2_bestSet 6 = .ok (.iconst 0, 1) := by decide +kernel
theorem dX2_bestSet_7 : decode cX2_bestSet 7 = .ok (.istore 4, 2) := by decide +kernel
theorem dX2_bestSet_9 : decode cX2_bestSet 9 = .ok (.iconst 1, 1) := by decide +kernel
theorem dX2_bestSet_10 : decode cX2_bestSet 10 = .ok (.istore 5, 2) := by decide +kernel
theorem dX2_bestSet_12 : decode cX2_bestSet 12 = .ok (.iload 5, 2) := by decide +kernel
theorem dX2_bestSet_14 : decode cX2_bestSet 14 = .ok (.iconst 1, 1) := by decide +kernel
theorem dX2_bestSet_15 : decode cX2_bestSet 15 = .ok (.aload_n 0, 1) := by decide +kernel
theorem dX2_bestSet_16 : decode cX2_bestSet 16 = .ok (.getfield 93, 3) := by decide +kernel
theorem dX2_bestSet_19 : decode cX2_bestSet 19 = .ok (.ishl, 1) := by decide +kernel
theorem dX2_bestSet_20 : decode cX2_bestSet 20 = .ok (.if_icmp .ge 43, 3) := by decide +kernel
theorem dX2_bestSet_23 : decode cX2_bestSet 23 = .ok (.iload 5, 2) := by decide +kernel
theorem dX2_bestSet_25 : decode cX2_bestSet 25 = .ok (.iload_n 3, 1) := by decide +kernel
theorem dX2_bestSet_26 : decode cX2_bestSet 26 = .ok (.iconst (-1), 1) := by decide +kernel
theorem dX2_bestSet_27 : decode cX2_bestSet 27 = .ok (.ixor, 1) := by decide +kernel
theorem dX2_bestSet_28 : decode cX2_bestSet 28 = .ok (.iand, 1) := by decide +kernel
theorem dX2_bestSet_29 : decode cX2_bestSet 29 = .ok (.ifCond .ne 28, 3) := by decide +kernel
theorem dX2_bestSet_32 : decode cX2_bestSet 32 = .ok (.aload_n 0, 1) := by decide +kernel
theorem dX2_bestSet_33 : decode cX2_bestSet 33 = .ok (.iload 5, 2) := by decide +kernel
theorem dX2_bestSet_35 : decode cX2_bestSet 35 = .ok (.invokevirtual 160, 3) := by decide +kernel
theorem dX2_bestSet_38 : decode cX2_bestSet 38 = .ok (.iload_n 2, 1) := by decide +kernel
theorem dX2_bestSet_39 : decode cX2_bestSet 39 = .ok (.if_icmp .gt 18, 3) := by decide +kernel
theorem dX2_bestSet_42 : decode cX2_bestSet 42 = .ok (.aload_n 0, 1) := by decide +kernel
theorem dX2_bestSet_43 : decode cX2_bestSet 43 = .ok (.iload 5, 2) := by decide +kernel
theorem dX2_bestSet_45 : decode cX2_bestSet 45 = .ok (.iload 4, 2) := by decide +kernel
theorem dX2_bestSet_47 : decode cX2_bestSet 47 = .ok (.invokevirtual 212, 3) := by decide +kernel
theorem dX2_bestSet_50 : decode cX2_bestSet 50 = .ok (.ifCond .eq 7, 3) := by decide +kernel
theorem dX2_bestSet_53 : decode cX2_bestSet 53 = .ok (.iload 5, 2) := by decide +kernel
theorem dX2_bestSet_55 : decode cX2_bestSet 55 = .ok (.istore 4, 2) := by decide +kernel
theorem dX2_bestSet_57 : decode cX2_bestSet 57 = .ok (.iinc 5 1, 3) := by decide +kernel
theorem dX2_bestSet_60 : decode cX2_bestSet 60 = .ok (.goto (-48), 3) := by decide +kernel
theorem dX2_bestSet_63 : decode cX2_bestSet 63 = .ok (.iload 4, 2) := by decide +kernel
theorem dX2_bestSet_65 : decode cX2_bestSet 65 = .ok (.ireturn, 1) := by decide +kernel
theorem dX2_singableSet_0 : decode cX2_singableSet 0 = .ok (.iconst 0, 1) := by decide +kernel
theorem dX2_singableSet_1 : decode cX2_singableSet 1 = .ok (.istore_n 2, 1) := by decide +kernel
theorem dX2_singableSet_2 : decode cX2_singableSet 2 = .ok (.iconst 0, 1) := by decide +kernel
theorem dX2_singableSet_3 : decode cX2_singableSet 3 = .ok (.istore_n 3, 1) := by decide +kernel
theorem dX2_singableSet_4 : decode cX2_singableSet 4 = .ok (.iload_n 3, 1) := by decide +kernel
theorem dX2_singableSet_5 : decode cX2_singableSet 5 = .ok (.aload_n 0, 1) := by decide +kernel
theorem dX2_singableSet_6 : decode cX2_singableSet 6 = .ok (.getfield 93, 3) := by decide +kernel
theorem dX2_singableSet_9 : decode cX2_singableSet 9 = .ok (.if_icmp .ge 30, 3) := by decide +kernel
theorem dX2_singableSet_12 : decode cX2_singableSet 12 = .ok (.aload_n 0, 1) := by decide +kernel
theorem dX2_singableSet_13 : decode cX2_singableSet 13 = .ok (.aload_n 0, 1) := by decide +kernel
theorem dX2_singableSet_14 : decode cX2_singableSet 14 = .ok (.iload_n 3, 1) := by decide +kernel
theorem dX2_singableSet_15 : decode cX2_singableSet 15 = .ok (.invokevirtual 102, 3) := by decide +kernel
theorem dX2_singableSet_18 : decode cX2_singableSet 18 = .ok (.iload_n 1, 1) := by decide +kernel
theorem dX2_singableSet_19 : decode cX2_singableSet 19 = .ok (.invokevirtual 145, 3) := by decide +kernel
theorem dX2_singableSet_22 : decode cX2_singableSet 22 = .ok (.bipush 13, 2) := by decide +kernel
theorem dX2_singableSet_24 : decode cX2_singableSet 24 = .ok (.if_icmp .eq 9, 3) := by decide +kernel
theorem dX2_singableSet_27 : decode cX2_singableSet 27 = .ok (.iload_n 2, 1) := by decide +kernel
theorem dX2_singableSet_28 : decode cX2_singableSet 28 = .ok (.iconst 1, 1) := by decide +kernel
theorem dX2_singableSet_29 : decode cX2_singableSet 29 = .ok (.iload_n 3, 1) := by decide +kernel
theorem dX2_singableSet_30 : decode cX2_singableSet 30 = .ok (.ishl, 1) := by decide +kernel
theorem dX2_singableSet_31 : decode cX2_singableSet 31 = .ok (.ior, 1) := by decide +kernel
theorem dX2_singableSet_32 : decode cX2_singableSet 32 = .ok (.istore_n 2, 1) := by decide +kernel
theorem dX2_singableSet_33 : decode cX2_singableSet 33 = .ok (.iinc 3 1, 3) := by decide +kernel
theorem dX2_singableSet_36 : decode cX2_singableSet 36 = .ok (.goto (-32), 3) := by decide +kernel
theorem dX2_singableSet_39 : decode cX2_singableSet 39 = .ok (.iload_n 2, 1) := by decide +kernel
theorem dX2_singableSet_40 : decode cX2_singableSet 40 = .ok (.ireturn, 1) := by decide +kernel
theorem dX2_lengthOf_0 : decode cX2_lengthOf 0 = .ok (.iconst 0, 1) := by decide +kernel
theorem dX2_lengthOf_1 : decode cX2_lengthOf 1 = .ok (.istore_n 2, 1) := by decide +kernel
theorem dX2_lengthOf_2 : decode cX2_lengthOf 2 = .ok (.iconst 0, 1) := by decide +kernel
theorem dX2_lengthOf_3 : decode cX2_lengthOf 3 = .ok (.istore_n 3, 1) := by decide +kernel
theorem dX2_lengthOf_4 : decode cX2_lengthOf 4 = .ok (.iload_n 3, 1) := by decide +kernel
theorem dX2_lengthOf_5 : decode cX2_lengthOf 5 = .ok (.aload_n 0, 1) := by decide +kernel
theorem dX2_lengthOf_6 : decode cX2_lengthOf 6 = .ok (.getfield 93, 3) := by decide +kernel
theorem dX2_lengthOf_9 : decode cX2_lengthOf 9 = .ok (.if_icmp .ge 28, 3) := by decide +kernel
theorem dX2_lengthOf_12 : decode cX2_lengthOf 12 = .ok (.iload_n 1, 1) := by decide +kernel
theorem dX2_lengthOf_13 : decode cX2_lengthOf 13 = .ok (.iload_n 3, 1) := by decide +kernel
theorem dX2_lengthOf_14 : decode cX2_lengthOf 14 = .ok (.ishr, 1) := by decide +kernel
theorem dX2_lengthOf_15 : decode cX2_lengthOf 15 = .ok (.iconst 1, 1) := by decide +kernel
theorem dX2_lengthOf_16 : decode cX2_lengthOf 16 = .ok (.iand, 1) := by decide +kernel
theorem dX2_lengthOf_17 : decode cX2_lengthOf 17 = .ok (.ifCond .eq 14, 3) := by decide +kernel
theorem dX2_lengthOf_20 : decode cX2_lengthOf 20 = .ok (.iload_n 2, 1) := by decide +kernel
theorem dX2_lengthOf_21 : decode cX2_lengthOf 21 = .ok (.aload_n 0, 1) := by decide +kernel
theorem dX2_lengthOf_22 : decode cX2_lengthOf 22 = .ok (.iload_n 3, 1) := by decide +kernel
theorem dX2_lengthOf_23 : decode cX2_lengthOf 23 = .ok (.invokevirtual 102, 3) := by decide +kernel
theorem dX2_lengthOf_26 : decode cX2_lengthOf 26 = .ok (.invokevirtual 215, 3) := by decide +kernel
theorem dX2_lengthOf_29 : decode cX2_lengthOf 29 = .ok (.iadd, 1) := by decide +kernel
theorem dX2_lengthOf_30 : decode cX2_lengthOf 30 = .ok (.istore_n 2, 1) := by decide +kernel
theorem dX2_lengthOf_31 : decode cX2_lengthOf 31 = .ok (.iinc 3 1, 3) := by decide +kernel
theorem dX2_lengthOf_34 : decode cX2_lengthOf 34 = .ok (.goto (-30), 3) := by decide +kernel
theorem dX2_lengthOf_37 : decode cX2_lengthOf 37 = .ok (.iload_n 2, 1) := by decide +kernel
theorem dX2_lengthOf_38 : decode cX2_lengthOf 38 = .ok (.ireturn, 1) := by decide +kernel
theorem dX2_isBetter_0 : decode cX2_isBetter 0 = .ok (.aload_n 0, 1) := by decide +kernel
theorem dX2_isBetter_1 : decode cX2_isBetter 1 = .ok (.iload_n 1, 1) := by decide +kernel
theorem dX2_isBetter_2 : decode cX2_isBetter 2 = .ok (.invokevirtual 160, 3) := by decide +kernel
theorem dX2_isBetter_5 : decode cX2_isBetter 5 = .ok (.aload_n 0, 1) := by decide +kernel
theorem dX2_isBetter_6 : decode cX2_isBetter 6 = .ok (.iload_n 2, 1) := by decide +kernel
theorem dX2_isBetter_7 : decode cX2_isBetter 7 = .ok (.invokevirtual 160, 3) := by decide +kernel
theorem dX2_isBetter_10 : decode cX2_isBetter 10 = .ok (.isub, 1) := by decide +kernel
theorem dX2_isBetter_11 : decode cX2_isBetter 11 = .ok (.istore_n 3, 1) := by decide +kernel
theorem dX2_isBetter_12 : decode cX2_isBetter 12 = .ok (.iload_n 3, 1) := by decide +kernel
theorem dX2_isBetter_13 : decode cX2_isBetter 13 = .ok (.ifCond .eq 13, 3) := by decide +kernel
theorem dX2_isBetter_16 : decode cX2_isBetter 16 = .ok (.iload_n 3, 1) := by decide +kernel
theorem dX2_isBetter_17 : decode cX2_isBetter 17 = .ok (.ifCond .le 7, 3) := by decide +kernel
theorem dX2_isBetter_20 : decode cX2_isBetter 20 = .ok (.iconst 1, 1) := by decide +kernel
theorem dX2_isBetter_21 : decode cX2_isBetter 21 = .ok (.goto 4, 3) := by decide +kernel
theorem dX2_isBetter_24 : decode cX2_isBetter 24 = .ok (.iconst 0, 1) := by decide +kernel
theorem dX2_isBetter_25 : decode cX2_isBetter 25 = .ok (.ireturn, 1) := by decide +kernel
theorem dX2_isBetter_26 : decode cX2_isBetter 26 = .ok (.iload_n 1, 1) := by decide +kernel
theorem dX2_isBetter_27 : decode cX2_isBetter 27 = .ok (.invokestatic 218, 3) := by decide +kernel
theorem dX2_isBetter_30 : decode cX2_isBetter 30 = .ok (.iload_n 2, 1) := by decide +kernel
theorem dX2_isBetter_31 : decode cX2_isBetter 31 = .ok (.invokestatic 218, 3) := by decide +kernel
theorem dX2_isBetter_34 : decode cX2_isBetter 34 = .ok (.isub, 1) := by decide +kernel
theorem dX2_isBetter_35 : decode cX2_isBetter 35 = .ok (.istore 4, 2) := by decide +kernel
theorem dX2_isBetter_37 : decode cX2_isBetter 37 = .ok (.iload 4, 2) := by decide +kernel
theorem dX2_isBetter_39 : decode cX2_isBetter 39 = .ok (.ifCond .eq 14, 3) := by decide +kernel
theorem dX2_isBetter_42 : decode cX2_isBetter 42 = .ok (.iload 4, 2) := by decide +kernel
theorem dX2_isBetter_44 : decode cX2_isBetter 44 = .ok (.ifCond .ge 7, 3) := by decide +kernel
theorem dX2_isBetter_47 : decode cX2_isBetter 47 = .ok (.iconst 1, 1) := by decide +kernel
theorem dX2_isBetter_48 : decode cX2_isBetter 48 = .ok (.goto 4, 3) := by decide +kernel
theorem dX2_isBetter_51 : decode cX2_isBetter 51 = .ok (.iconst 0, 1) := by decide +kernel
theorem dX2_isBetter_52 : decode cX2_isBetter 52 = .ok (.ireturn, 1) := by decide +kernel
theorem dX2_isBetter_53 : decode cX2_isBetter 53 = .ok (.iload_n 1, 1) := by decide +kernel
theorem dX2_isBetter_54 : decode cX2_isBetter 54 = .ok (.iload_n 2, 1) := by decide +kernel
theorem dX2_isBetter_55 : decode cX2_isBetter 55 = .ok (.ixor, 1) := by decide +kernel
theorem dX2_isBetter_56 : decode cX2_isBetter 56 = .ok (.istore 5, 2) := by decide +kernel
theorem dX2_isBetter_58 : decode cX2_isBetter 58 = .ok (.iload 5, 2) := by decide +kernel
theorem dX2_isBetter_60 : decode cX2_isBetter 60 = .ok (.iload 5, 2) := by decide +kernel
theorem dX2_isBetter_62 : decode cX2_isBetter 62 = .ok (.ineg, 1) := by decide +kernel
theorem dX2_isBetter_63 : decode cX2_isBetter 63 = .ok (.iand, 1) := by decide +kernel
theorem dX2_isBetter_64 : decode cX2_isBetter 64 = .ok (.istore 6, 2) := by decide +kernel
theorem dX2_isBetter_66 : decode cX2_isBetter 66 = .ok (.iload_n 1, 1) := by decide +kernel
theorem dX2_isBetter_67 : decode cX2_isBetter 67 = .ok (.iload 6, 2) := by decide +kernel
theorem dX2_isBetter_69 : decode cX2_isBetter 69 = .ok (.iand, 1) := by decide +kernel
theorem dX2_isBetter_70 : decode cX2_isBetter 70 = .ok (.ifCond .eq 7, 3) := by decide +kernel
theorem dX2_isBetter_73 : decode cX2_isBetter 73 = .ok (.iconst 1, 1) := by decide +kernel
theorem dX2_isBetter_74 : decode cX2_isBetter 74 = .ok (.goto 4, 3) := by decide +kernel
theorem dX2_isBetter_77 : decode cX2_isBetter 77 = .ok (.iconst 0, 1) := by decide +kernel
theorem dX2_isBetter_78 : decode cX2_isBetter 78 = .ok (.ireturn, 1) := by decide +kernel
theorem dX3_init_0 : decode cX3_init 0 = .ok (.aload_n 0, 1) := by decide +kernel
theorem dX3_init_1 : decode cX3_init 1 = .ok (.invokespecial 1, 3) := by decide +kernel
theorem dX3_init_4 : decode cX3_init 4 = .ok (.aload_n 0, 1) := by decide +kernel
theorem dX3_init_5 : decode cX3_init 5 = .ok (.bipush 12, 2) := by decide +kernel
theorem dX3_init_7 : decode cX3_init 7 = .ok (.newarray .int, 2) := by decide +kernel
theorem dX3_init_9 : decode cX3_init 9 = .ok (.putfield 7, 3) := by decide +kernel
theorem dX3_init_12 : decode cX3_init 12 = .ok (.aload_n 0, 1) := by decide +kernel
theorem dX3_init_13 : decode cX3_init 13 = .ok (.bipush 12, 2) := by decide +kernel
theorem dX3_init_15 : decode cX3_init 15 = .ok (.newarray .int, 2) := by decide +kernel
theorem dX3_init_17 : decode cX3_init 17 = .ok (.putfield 13, 3) := by decide +kernel
theorem dX3_init_20 : decode cX3_init 20 = .ok (.aload_n 0, 1) := by decide +kernel
theorem dX3_init_21 : decode cX3_init 21 = .ok (.bipush 12, 2) := by decide +kernel
theorem dX3_init_23 : decode cX3_init 23 = .ok (.newarray .int, 2) := by decide +kernel
theorem dX3_init_25 : decode cX3_init 25 = .ok (.putfield 16, 3) := by decide +kernel
theorem dX3_init_28 : decode cX3_init 28 = .ok (.aload_n 0, 1) := by decide +kernel
theorem dX3_init_29 : decode cX3_init 29 = .ok (.bipush 12, 2) := by decide +kernel
theorem dX3_init_31 : decode cX3_init 31 = .ok (.newarray .int, 2) := by decide +kernel
theorem dX3_init_33 : decode cX3_init 33 = .ok (.putfield 19, 3) := by decide +kernel
theorem dX3_init_36 : decode cX3_init 36 = .ok (.aload_n 0, 1) := by decide +kernel
theorem dX3_init_37 : decode cX3_init 37 = .ok (.sipush 448, 3) := by decide +kernel
theorem dX3_init_40 : decode cX3_init 40 = .ok (.newarray .int, 2) := by decide +kernel
theorem dX3_init_42 : decode cX3_init 42 = .ok (.putfield 22, 3) := by decide +kernel
theorem dX3_init_45 : decode cX3_init 45 = .ok (.aload_n 0, 1) := by decide +kernel
theorem dX3_init_46 : decode cX3_init 46 = .ok (.bipush 7, 2) := by decide +kernel
theorem dX3_init_48 : decode cX3_init 48 = .ok (.newarray .int, 2) := by decide +kernel
theorem dX3_init_50 : decode cX3_init 50 = .ok (.putfield 25, 3) := by decide +kernel
theorem dX3_init_53 : decode cX3_init 53 = .ok (.aload_n 0, 1) := by decide +kernel
theorem dX3_init_54 : decode cX3_init 54 = .ok (.bipush 6, 2) := by decide +kernel
theorem dX3_init_56 : decode cX3_init 56 = .ok (.newarray .int, 2) := by decide +kernel
theorem dX3_init_58 : decode cX3_init 58 = .ok (.putfield 28, 3) := by decide +kernel
theorem dX3_init_61 : decode cX3_init 61 = .ok (.aload_n 0, 1) := by decide +kernel
theorem dX3_init_62 : decode cX3_init 62 = .ok (.bipush 96, 2) := by decide +kernel
theorem dX3_init_64 : decode cX3_init 64 = .ok (.newarray .int, 2) := by decide +kernel
theorem dX3_init_66 : decode cX3_init 66 = .ok (.putfield 31, 3) := by decide +kernel
theorem dX3_init_69 : decode cX3_init 69 = .ok (.return_, 1) := by decide +kernel
theorem dX3_thrown_0 : decode cX3_thrown 0 = .ok (.aload_n 0, 1) := by decide +kernel
theorem dX3_thrown_1 : decode cX3_thrown 1 = .ok (.getfield 34, 3) := by decide +kernel
theorem dX3_thrown_4 : decode cX3_thrown 4 = .ok (.ireturn, 1) := by decide +kernel
theorem dX3_refused_0 : decode cX3_refused 0 = .ok (.aload_n 0, 1) := by decide +kernel
theorem dX3_refused_1 : decode cX3_refused 1 = .ok (.iload_n 1, 1) := by decide +kernel
theorem dX3_refused_2 : decode cX3_refused 2 = .ok (.putfield 34, 3) := by decide +kernel
theorem dX3_refused_5 : decode cX3_refused 5 = .ok (.iload_n 1, 1) := by decide +kernel
theorem dX3_refused_6 : decode cX3_refused 6 = .ok (.ifCond .eq 7, 3) := by decide +kernel
theorem dX3_refused_9 : decode cX3_refused 9 = .ok (.iconst 1, 1) := by decide +kernel
theorem dX3_refused_10 : decode cX3_refused 10 = .ok (.goto 4, 3) := by decide +kernel
theorem dX3_refused_13 : decode cX3_refused 13 = .ok (.iconst 0, 1) := by decide +kernel
theorem dX3_refused_14 : decode cX3_refused 14 = .ok (.ireturn, 1) := by decide +kernel
theorem dX3_in_0 : decode cX3_in 0 = .ok (.iload_n 0, 1) := by decide +kernel
theorem dX3_in_1 : decode cX3_in 1 = .ok (.iload_n 1, 1) := by decide +kernel
theorem dX3_in_2 : decode cX3_in 2 = .ok (.if_icmp .lt 12, 3) := by decide +kernel
theorem dX3_in_5 : decode cX3_in 5 = .ok (.iload_n 0, 1) := by decide +kernel
theorem dX3_in_6 : decode cX3_in 6 = .ok (.iload_n 2, 1) := by decide +kernel
theorem dX3_in_7 : decode cX3_in 7 = .ok (.if_icmp .gt 7, 3) := by decide +kernel
theorem dX3_in_10 : decode cX3_in 10 = .ok (.iconst 1, 1) := by decide +kernel
theorem dX3_in_11 : decode cX3_in 11 = .ok (.goto 4, 3) := by decide +kernel
theorem dX3_in_14 : decode cX3_in 14 = .ok (.iconst 0, 1) := by decide +kernel
theorem dX3_in_15 : decode cX3_in 15 = .ok (.ireturn, 1) := by decide +kernel
theorem dX3_isVoice_0 : decode cX3_isVoice 0 = .ok (.iload_n 0, 1) := by decide +kernel
theorem dX3_isVoice_1 : decode cX3_isVoice 1 = .ok (.iconst 0, 1) := by decide +kernel
theorem dX3_isVoice_2 : decode cX3_isVoice 2 = .ok (.iconst 3, 1) := by decide +kernel
theorem dX3_isVoice_3 : decode cX3_isVoice 3 = .ok (.invokestatic 38, 3) := by decide +kernel
theorem dX3_isVoice_6 : decode cX3_isVoice 6 = .ok (.ireturn, 1) := by decide +kernel
theorem dX3_isDate_0 : decode cX3_isDate 0 = .ok (.iload_n 0, 1) := by decide +kernel
theorem dX3_isDate_1 : decode cX3_isDate 1 = .ok (.iconst 0, 1) := by decide +kernel
theorem dX3_isDate_2 : decode cX3_isDate 2 = .ok (.bipush 30, 2) := by decide +kernel
theorem dX3_isDate_4 : decode cX3_isDate 4 = .ok (.invokestatic 38, 3) := by decide +kernel
theorem dX3_isDate_7 : decode cX3_isDate 7 = .ok (.ireturn, 1) := by decide +kernel
theorem dX3_isTone_0 : decode cX3_isTone 0 = .ok (.iload_n 0, 1) := by decide +kernel
theorem dX3_isTone_1 : decode cX3_isTone 1 = .ok (.iconst 0, 1) := by decide +kernel
theorem dX3_isTone_2 : decode cX3_isTone 2 = .ok (.bipush 60, 2) := by decide +kernel
theorem dX3_isTone_4 : decode cX3_isTone 4 = .ok (.invokestatic 38, 3) := by decide +kernel
theorem dX3_isTone_7 : decode cX3_isTone 7 = .ok (.ireturn, 1) := by decide +kernel
theorem dX3_isSinger_0 : decode cX3_isSinger 0 = .ok (.iload_n 1, 1) := by decide +kernel
theorem dX3_isSinger_1 : decode cX3_isSinger 1 = .ok (.iconst 0, 1) := by decide +kernel
theorem dX3_isSinger_2 : decode cX3_isSinger 2 = .ok (.aload_n 0, 1) := by decide +kernel
theorem dX3_isSinger_3 : decode cX3_isSinger 3 = .ok (.getfield 42, 3) := by decide +kernel
theorem dX3_isSinger_6 : decode cX3_isSinger 6 = .ok (.iconst 1, 1) := by decide +kernel
theorem dX3_isSinger_7 : decode cX3_isSinger 7 = .ok (.isub, 1) := by decide +kernel
theorem dX3_isSinger_8 : decode cX3_isSinger 8 = .ok (.invokestatic 38, 3) := by decide +kernel
theorem dX3_isSinger_11 : decode cX3_isSinger 11 = .ok (.ireturn, 1) := by decide +kernel
theorem dX3_isPiece_0 : decode cX3_isPiece 0 = .ok (.iload_n 1, 1) := by decide +kernel
theorem dX3_isPiece_1 : decode cX3_isPiece 1 = .ok (.iconst 0, 1) := by decide +kernel
theorem dX3_isPiece_2 : decode cX3_isPiece 2 = .ok (.aload_n 0, 1) := by decide +kernel
theorem dX3_isPiece_3 : decode cX3_isPiece 3 = .ok (.getfield 45, 3) := by decide +kernel
theorem dX3_isPiece_6 : decode cX3_isPiece 6 = .ok (.iconst 1, 1) := by decide +kernel
theorem dX3_isPiece_7 : decode cX3_isPiece 7 = .ok (.isub, 1) := by decide +kernel
theorem dX3_isPiece_8 : decode cX3_isPiece 8 = .ok (.invokestatic 38, 3) := by decide +kernel
theorem dX3_isPiece_11 : decode cX3_isPiece 11 = .ok (.ireturn, 1) := by decide +kernel
theorem dX3_isChord_0 : decode cX3_isChord 0 = .ok (.aload_n 0, 1) := by decide +kernel
theorem dX3_isChord_1 : decode cX3_isChord 1 = .ok (.iload_n 1, 1) := by decide +kernel
theorem dX3_isChord_2 : decode cX3_isChord 2 = .ok (.invokevirtual 48, 3) := by decide +kernel
theorem dX3_isChord_5 : decode cX3_isChord 5 = .ok (.ifCond .eq 23, 3) := by decide +kernel
theorem dX3_isChord_8 : decode cX3_isChord 8 = .ok (.iload_n 2, 1) := by decide +kernel
theorem dX3_isChord_9 : decode cX3_isChord 9 = .ok (.iconst 0, 1) := by decide +kernel
theorem dX3_isChord_10 : decode cX3_isChord 10 = .ok (.aload_n 0, 1) := by decide +kernel
theorem dX3_isChord_11 : decode cX3_isChord 11 = .ok (.getfield 25, 3) := by decide +kernel
theorem dX3_isChord_14 : decode cX3_isChord 14 = .ok (.iload_n 1, 1) := by decide +kernel
theorem dX3_isChord_15 : decode cX3_isChord 15 = .ok (.iaload, 1) := by decide +kernel
theorem dX3_isChord_16 : decode cX3_isChord 16 = .ok (.iconst 1, 1) := by decide +kernel
theorem dX3_isChord_17 : decode cX3_isChord 17 = .ok (.isub, 1) := by decide +kernel
theorem dX3_isChord_18 : decode cX3_isChord 18 = .ok (.invokestatic 38, 3) := by decide +kernel
theorem dX3_isChord_21 : decode cX3_isChord 21 = .ok (.ifCond .eq 7, 3) := by decide +kernel
theorem dX3_isChord_24 : decode cX3_isChord 24 = .ok (.iconst 1, 1) := by decide +kernel
theorem dX3_isChord_25 : decode cX3_isChord 25 = .ok (.goto 4, 3) := by decide +kernel
theorem dX3_isChord_28 : decode cX3_isChord 28 = .ok (.iconst 0, 1) := by decide +kernel
theorem dX3_isChord_29 : decode cX3_isChord 29 = .ok (.ireturn, 1) := by decide +kernel
theorem dX3_addSinger_0 : decode cX3_addSinger 0 = .ok (.iload_n 1, 1) := by decide +kernel
theorem dX3_addSinger_1 : decode cX3_addSinger 1 = .ok (.invokestatic 52, 3) := by decide +kernel
theorem dX3_addSinger_4 : decode cX3_addSinger 4 = .ok (.ifCond .eq 24, 3) := by decide +kernel
theorem dX3_addSinger_7 : decode cX3_addSinger 7 = .ok (.iload_n 2, 1) := by decide +kernel
theorem dX3_addSinger_8 : decode cX3_addSinger 8 = .ok (.invokestatic 55, 3) := by decide +kernel
theorem dX3_addSinger_11 : decode cX3_addSinger 11 = .ok (.ifCond .eq 17, 3) := by decide +kernel
theorem dX3_addSinger_14 : decode cX3_addSinger 14 = .ok (.iload_n 3, 1) := by decide +kernel
theorem dX3_addSinger_15 : decode cX3_addSinger 15 = .ok (.iload_n 2, 1) := by decide +kernel
theorem dX3_addSinger_16 : decode cX3_addSinger 16 = .ok (.bipush 60, 2) := by decide +kernel
theorem dX3_addSinger_18 : decode cX3_addSinger 18 = .ok (.invokestatic 38, 3) := by decide +kernel
theorem dX3_addSinger_21 : decode cX3_addSinger 21 = .ok (.ifCond .eq 7, 3) := by decide +kernel
theorem dX3_addSinger_24 : decode cX3_addSinger 24 = .ok (.iconst 1, 1) := by decide +kernel
theorem dX3_addSinger_25 : decode cX3_addSinger 25 = .ok (.goto 4, 3) := by decide +kernel
theorem dX3_addSinger_28 : decode cX3_addSinger 28 = .ok (.iconst 0, 1) := by decide +kernel
theorem dX3_addSinger_29 : decode cX3_addSinger 29 = .ok (.istore 4, 2) := by decide +kernel
theorem dX3_addSinger_31 : decode cX3_addSinger 31 = .ok (.aload_n 0, 1) := by decide +kernel
theorem dX3_addSinger_32 : decode cX3_addSinger 32 = .ok (.iload 4, 2) := by decide +kernel
theorem dX3_addSinger_34 : decode cX3_addSinger 34 = .ok (.ifCond .ne 7, 3) := by decide +kernel
theorem dX3_addSinger_37 : decode cX3_addSinger 37 = .ok (.iconst 1, 1) := by decide +kernel
theorem dX3_addSinger_38 : decode cX3_addSinger 38 = .ok (.goto 17, 3) := by decide +kernel
theorem dX3_addSinger_41 : decode cX3_addSinger 41 = .ok (.aload_n 0, 1) := by decide +kernel
theorem dX3_addSinger_42 : decode cX3_addSinger 42 = .ok (.getfield 42, 3) := by decide +kernel
theorem dX3_addSinger_45 : decode cX3_addSinger 45 = .ok (.bipush 12, 2) := by decide +kernel
theorem dX3_addSinger_47 : decode cX3_addSinger 47 = .ok (.if_icmp .ne 7, 3) := by decide +kernel
theorem dX3_addSinger_50 : decode cX3_addSinger 50 = .ok (.iconst 2, 1) := by decide +kernel
theorem dX3_addSinger_51 : decode cX3_addSinger 51 = .ok (.goto 4, 3) := by decide +kernel
theorem dX3_addSinger_54 : decode cX3_addSinger 54 = .ok (.iconst 0, 1) := by decide +kernel
theorem dX3_addSinger_55 : decode cX3_addSinger 55 = .ok (.invokevirtual 58, 3) := by decide +kernel
theorem dX3_addSinger_58 : decode cX3_addSinger 58 = .ok (.ifCond .eq 5, 3) := by decide +kernel
theorem dX3_addSinger_61 : decode cX3_addSinger 61 = .ok (.iconst 0, 1) := by decide +kernel
theorem dX3_addSinger_62 : decode cX3_addSinger 62 = .ok (.ireturn, 1) := by decide +kernel
theorem dX3_addSinger_63 : decode cX3_addSinger 63 = .ok (.aload_n 0, 1) := by decide +kernel
theorem dX3_addSinger_64 : decode cX3_addSinger 64 = .ok (.getfield 7, 3) := by decide +kernel
theorem dX3_addSinger_67 : decode cX3_addSinger 67 = .ok (.aload_n 0, 1) := by decide +kernel
theorem dX3_addSinger_68 : decode cX3_addSinger 68 = .ok (.getfield 42, 3) := by decide +kernel
theorem dX3_addSinger_71 : decode cX3_addSinger 71 = .ok (.iload_n 1, 1) := by decide +kernel
theorem dX3_addSinger_72 : decode cX3_addSinger 72 = .ok (.iastore, 1) := by decide +kernel
theorem dX3_addSinger_73 : decode cX3_addSinger 73 = .ok (.aload_n 0, 1) := by decide +kernel
theorem dX3_addSinger_74 : decode cX3_addSinger 74 = .ok (.getfield 13, 3) := by decide +kernel
theorem dX3_addSinger_77 : decode cX3_addSinger 77 = .ok (.aload_n 0, 1) := by decide +kernel
theorem dX3_addSinger_78 : decode cX3_addSinger 78 = .ok (.getfield 42, 3) := by decide +kernel
theorem dX3_addSinger_81 : decode cX3_addSinger 81 = .ok (.iload_n 2, 1) := by decide +kernel
theorem dX3_addSinger_82 : decode cX3_addSinger 82 = .ok (.iastore, 1) := by decide +kernel
theorem dX3_addSinger_83 : decode cX3_addSinger 83 = .ok (.aload_n 0, 1) := by decide +kernel
theorem dX3_addSinger_84 : decode cX3_addSinger 84 = .ok (.getfield 16, 3) := by decide +kernel
theorem dX3_addSinger_87 : decode cX3_addSinger 87 = .ok (.aload_n 0, 1) := by decide +kernel
theorem dX3_addSinger_88 : decode cX3_addSinger 88 = .ok (.getfield 42, 3) := by decide +kernel
theorem dX3_addSinger_91 : decode cX3_addSinger 91 = .ok (.iload_n 3, 1) := by decide +kernel
theorem dX3_addSinger_92 : decode cX3_addSinger 92 = .ok (.iastore, 1) := by decide +kernel
theorem dX3_addSinger_93 : decode cX3_addSinger 93 = .ok (.aload_n 0, 1) := by decide +kernel
theorem dX3_addSinger_94 : decode cX3_addSinger 94 = .ok (.dup, 1) := by decide +kernel
theorem dX3_addSinger_95 : decode cX3_addSinger 95 = .ok (.getfield 42, 3) := by decide +kernel
theorem dX3_addSinger_98 : decode cX3_addSinger 98 = .ok (.iconst 1, 1) := by decide +kernel
theorem dX3_addSinger_99 : decode cX3_addSinger 99 = .ok (.iadd, 1) := by decide +kernel
theorem dX3_addSinger_100 : decode cX3_addSinger 100 = .ok (.putfield 42, 3) := by decide +kernel
theorem dX3_addSinger_103 : decode cX3_addSinger 103 = .ok (.aload_n 0, 1) := by decide +kernel
theorem dX3_addSinger_104 : decode cX3_addSinger 104 = .ok (.getfield 42, 3) := by decide +kernel
theorem dX3_addSinger_107 : decode cX3_addSinger 107 = .ok (.iconst 1, 1) := by decide +kernel
theorem dX3_addSinger_108 : decode cX3_addSinger 108 = .ok (.isub, 1) := by decide +kernel
theorem dX3_addSinger_109 : decode cX3_addSinger 109 = .ok (.ireturn, 1) := by decide +kernel
theorem dX3_isThere_0 : decode cX3_isThere 0 = .ok (.aload_n 0, 1) := by decide +kernel
theorem dX3_isThere_1 : decode cX3_isThere 1 = .ok (.getfield 19, 3) := by decide +kernel
theorem dX3_isThere_4 : decode cX3_isThere 4 = .ok (.iload_n 1, 1) := by decide +kernel
theorem dX3_isThere_5 : decode cX3_isThere 5 = .ok (.iaload, 1) := by decide +kernel
theorem dX3_isThere_6 : decode cX3_isThere 6 = .ok (.iload_n 2, 1) := by decide +kernel
theorem dX3_isThere_7 : decode cX3_isThere 7 = .ok (.ishr, 1) := by decide +kernel
theorem dX3_isThere_8 : decode cX3_isThere 8 = .ok (.iconst 1, 1) := by decide +kernel
theorem dX3_isThere_9 : decode cX3_isThere 9 = .ok (.iand, 1) := by decide +kernel
theorem dX3_isThere_10 : decode cX3_isThere 10 = .ok (.ifCond .ne 7, 3) := by decide +kernel
theorem dX3_isThere_13 : decode cX3_isThere 13 = .ok (.iconst 1, 1) := by decide +kernel
theorem dX3_isThere_14 : decode cX3_isThere 14 = .ok (.goto 4, 3) := by decide +kernel
theorem dX3_isThere_17 : decode cX3_isThere 17 = .ok (.iconst 0, 1) := by decide +kernel
theorem dX3_isThere_18 : decode cX3_isThere 18 = .ok (.ireturn, 1) := by decide +kernel
theorem dX3_tell_0 : decode cX3_tell 0 = .ok (.aload_n 0, 1) := by decide +kernel
theorem dX3_tell_1 : decode cX3_tell 1 = .ok (.aload_n 0, 1) := by decide +kernel
theorem dX3_tell_2 : decode cX3_tell 2 = .ok (.iload_n 1, 1) := by decide +kernel
theorem dX3_tell_3 : decode cX3_tell 3 = .ok (.invokevirtual 61, 3) := by decide +kernel
theorem dX3_tell_6 : decode cX3_tell 6 = .ok (.ifCond .ne 7, 3) := by decide +kernel
theorem dX3_tell_9 : decode cX3_tell 9 = .ok (.iconst 1, 1) := by decide +kernel
theorem dX3_tell_10 : decode cX3_tell 10 = .ok (.goto 15, 3) := by decide +kernel
theorem dX3_tell_13 : decode cX3_tell 13 = .ok (.iload_n 2, 1) := by decide +kernel
theorem dX3_tell_14 : decode cX3_tell 14 = .ok (.invokestatic 64, 3) := by decide +kernel
theorem dX3_tell_17 : decode cX3_tell 17 = .ok (.ifCond .eq 7, 3) := by decide +kernel
theorem dX3_tell_20 : decode cX3_tell 20 = .ok (.iconst 0, 1) := by decide +kernel
theorem dX3_tell_21 : decode cX3_tell 21 = .ok (.goto 4, 3) := by decide +kernel
theorem dX3_tell_24 : decode cX3_tell 24 = .ok (.iconst 2, 1) := by decide +kernel
theorem dX3_tell_25 : decode cX3_tell 25 = .ok (.invokevirtual 58, 3) := by decide +kernel
theorem dX3_tell_28 : decode cX3_tell 28 = .ok (.ifCond .eq 5, 3) := by decide +kernel
theorem dX3_tell_31 : decode cX3_tell 31 = .ok (.iconst 0, 1) := by decide +kernel
theorem dX3_tell_32 : decode cX3_tell 32 = .ok (.ireturn, 1) := by decide +kernel
theorem dX3_tell_33 : decode cX3_tell 33 = .ok (.aload_n 0, 1) := by decide +kernel
theorem dX3_tell_34 : decode cX3_tell 34 = .ok (.iload_n 1, 1) := by decide +kernel
theorem dX3_tell_35 : decode cX3_tell 35 = .ok (.iload_n 2, 1) := by decide +kernel
theorem dX3_tell_36 : decode cX3_tell 36 = .ok (.invokevirtual 67, 3) := by decide +kernel
theorem dX3_tell_39 : decode cX3_tell 39 = .ok (.istore 4, 2) := by decide +kernel
theorem dX3_tell_41 : decode cX3_tell 41 = .ok (.aload_n 0, 1) := by decide +kernel
theorem dX3_tell_42 : decode cX3_tell 42 = .ok (.getfield 19, 3) := by decide +kernel
theorem dX3_tell_45 : decode cX3_tell 45 = .ok (.iload_n 1, 1) := by decide +kernel
theorem dX3_tell_46 : decode cX3_tell 46 = .ok (.iload_n 3, 1) := by decide +kernel
theorem dX3_tell_47 : decode cX3_tell 47 = .ok (.ifCond .eq 18, 3) := by decide +kernel
theorem dX3_tell_50 : decode cX3_tell 50 = .ok (.aload_n 0, 1) := by decide +kernel
theorem dX3_tell_51 : decode cX3_tell 51 = .ok (.getfield 19, 3) := by decide +kernel
theorem dX3_tell_54 : decode cX3_tell 54 = .ok (.iload_n 1, 1) := by decide +kernel
theorem dX3_tell_55 : decode cX3_tell 55 = .ok (.iaload, 1) := by decide +kernel
theorem dX3_tell_56 : decode cX3_tell 56 = .ok (.iconst 1, 1) := by decide +kernel
theorem dX3_tell_57 : decode cX3_tell 57 = .ok (.iload_n 2, 1) := by decide +kernel
theorem dX3_tell_58 : decode cX3_tell 58 = .ok (.ishl, 1) := by decide +kernel
theorem dX3_tell_59 : decode cX3_tell 59 = .ok (.iconst (-1), 1) := by decide +kernel
theorem dX3_tell_60 : decode cX3_tell 60 = .ok (.ixor, 1) := by decide +kernel
theorem dX3_tell_61 : decode cX3_tell 61 = .ok (.iand, 1) := by decide +kernel
theorem dX3_tell_62 : decode cX3_tell 62 = .ok (.goto 13, 3) := by decide +kernel
theorem dX3_tell_65 : decode cX3_tell 65 = .ok (.aload_n 0, 1) := by decide +kernel
theorem dX3_tell_66 : decode cX3_tell 66 = .ok (.getfield 19, 3) := by decide +kernel
theorem dX3_tell_69 : decode cX3_tell 69 = .ok (.iload_n 1, 1) := by decide +kernel
theorem dX3_tell_70 : decode cX3_tell 70 = .ok (.iaload, 1) := by decide +kernel
theorem dX3_tell_71 : decode cX3_tell 71 = .ok (.iconst 1, 1) := by decide +kernel
theorem dX3_tell_72 : decode cX3_tell 72 = .ok (.iload_n 2, 1) := by decide +kernel
theorem dX3_tell_73 : decode cX3_tell 73 = .ok (.ishl, 1) := by decide +kernel
theorem dX3_tell_74 : decode cX3_tell 74 = .ok (.ior, 1) := by decide +kernel
theorem dX3_tell_75 : decode cX3_tell 75 = .ok (.iastore, 1) := by decide +kernel
theorem dX3_tell_76 : decode cX3_tell 76 = .ok (.iload 4, 2) := by decide +kernel
theorem dX3_tell_78 : decode cX3_tell 78 = .ok (.ireturn, 1) := by decide +kernel
theorem dX3_change_0 : decode cX3_change 0 = .ok (.aload_n 0, 1) := by decide +kernel
theorem dX3_change_1 : decode cX3_change 1 = .ok (.aload_n 0, 1) := by decide +kernel
theorem dX3_change_2 : decode cX3_change 2 = .ok (.iload_n 1, 1) := by decide +kernel
theorem dX3_change_3 : decode cX3_change 3 = .ok (.invokevirtual 61, 3) := by decide +kernel
theorem dX3_change_6 : decode cX3_change 6 = .ok (.ifCond .ne 7, 3) := by decide +kernel
theorem dX3_change_9 : decode cX3_change 9 = .ok (.iconst 1, 1) := by decide +kernel
theorem dX3_change_10 : decode cX3_change 10 = .ok (.goto 15, 3) := by decide +kernel
theorem dX3_change_13 : decode cX3_change 13 = .ok (.iload_n 2, 1) := by decide +kernel
theorem dX3_change_14 : decode cX3_change 14 = .ok (.invokestatic 52, 3) := by decide +kernel
theorem dX3_change_17 : decode cX3_change 17 = .ok (.ifCond .eq 7, 3) := by decide +kernel
theorem dX3_change_20 : decode cX3_change 20 = .ok (.iconst 0, 1) := by decide +kernel
theorem dX3_change_21 : decode cX3_change 21 = .ok (.goto 4, 3) := by decide +kernel
theorem dX3_change_24 : decode cX3_change 24 = .ok (.iconst 2, 1) := by decide +kernel
theorem dX3_change_25 : decode cX3_change 25 = .ok (.invokevirtual 58, 3) := by decide +kernel
theorem dX3_change_28 : decode cX3_change 28 = .ok (.ifCond .eq 5, 3) := by decide +kernel
theorem dX3_change_31 : decode cX3_change 31 = .ok (.iconst 0, 1) := by decide +kernel
theorem dX3_change_32 : decode cX3_change 32 = .ok (.ireturn, 1) := by decide +kernel
theorem dX3_change_33 : decode cX3_change 33 = .ok (.aload_n 0, 1) := by decide +kernel
theorem dX3_change_34 : decode cX3_change 34 = .ok (.getfield 7, 3) := by decide +kernel
theorem dX3_change_37 : decode cX3_change 37 = .ok (.iload_n 1, 1) := by decide +kernel
theorem dX3_change_38 : decode cX3_change 38 = .ok (.iaload, 1) := by decide +kernel
theorem dX3_change_39 : decode cX3_change 39 = .ok (.istore_n 3, 1) := by decide +kernel
theorem dX3_change_40 : decode cX3_change 40 = .ok (.aload_n 0, 1) := by decide +kernel
theorem dX3_change_41 : decode cX3_change 41 = .ok (.getfield 7, 3) := by decide +kernel
theorem dX3_change_44 : decode cX3_change 44 = .ok (.iload_n 1, 1) := by decide +kernel
theorem dX3_change_45 : decode cX3_change 45 = .ok (.iload_n 2, 1) := by decide +kernel
theorem dX3_change_46 : decode cX3_change 46 = .ok (.iastore, 1) := by decide +kernel
theorem dX3_change_47 : decode cX3_change 47 = .ok (.iload_n 3, 1) := by decide +kernel
theorem dX3_change_48 : decode cX3_change 48 = .ok (.ireturn, 1) := by decide +kernel
theorem dX3_firstOf_0 : decode cX3_firstOf 0 = .ok (.iconst (-1), 1) := by decide +kernel
theorem dX3_firstOf_1 : decode cX3_firstOf 1 = .ok (.istore_n 3, 1) := by decide +kernel
theorem dX3_firstOf_2 : decode cX3_firstOf 2 = .ok (.iconst 0, 1) := by decide +kernel
theorem dX3_firstOf_3 : decode cX3_firstOf 3 = .ok (.istore 4, 2) := by decide +kernel
theorem dX3_firstOf_5 : decode cX3_firstOf 5 = .ok (.iload 4, 2) := by decide +kernel
theorem dX3_firstOf_7 : decode cX3_firstOf 7 = .ok (.aload_n 0, 1) := by decide +kernel
theorem dX3_firstOf_8 : decode cX3_firstOf 8 = .ok (.getfield 42, 3) := by decide +kernel
theorem dX3_firstOf_11 : decode cX3_firstOf 11 = .ok (.if_icmp .ge 65, 3) := by decide +kernel
theorem dX3_firstOf_14 : decode cX3_firstOf 14 = .ok (.aload_n 0, 1) := by decide +kernel
theorem dX3_firstOf_15 : decode cX3_firstOf 15 = .ok (.getfield 7, 3) := by decide +kernel
theorem dX3_firstOf_18 : decode cX3_firstOf 18 = .ok (.iload 4, 2) := by decide +kernel
theorem dX3_firstOf_20 : decode cX3_firstOf 20 = .ok (.iaload, 1) := by decide +kernel
theorem dX3_firstOf_21 : decode cX3_firstOf 21 = .ok (.iload_n 1, 1) := by decide +kernel
theorem dX3_firstOf_22 : decode cX3_firstOf 22 = .ok (.if_icmp .ne 17, 3) := by decide +kernel
theorem dX3_firstOf_25 : decode cX3_firstOf 25 = .ok (.aload_n 0, 1) := by decide +kernel
theorem dX3_firstOf_26 : decode cX3_firstOf 26 = .ok (.iload 4, 2) := by decide +kernel
theorem dX3_firstOf_28 : decode cX3_firstOf 28 = .ok (.iload_n 2, 1) := by decide +kernel
theorem dX3_firstOf_29 : decode cX3_firstOf 29 = .ok (.invokevirtual 67, 3) := by decide +kernel
theorem dX3_firstOf_32 : decode cX3_firstOf 32 = .ok (.ifCond .eq 7, 3) := by decide +kernel
theorem dX3_firstOf_35 : decode cX3_firstOf 35 = .ok (.iconst 1, 1) := by decide +kernel
theorem dX3_firstOf_36 : decode cX3_firstOf 36 = .ok (.goto 4, 3) := by decide +kernel
theorem dX3_firstOf_39 : decode cX3_firstOf 39 = .ok (.iconst 0, 1) := by decide +kernel
theorem dX3_firstOf_40 : decode cX3_firstOf 40 = .ok (.istore 5, 2) := by decide +kernel
theorem dX3_firstOf_42 : decode cX3_firstOf 42 = .ok (.iload 5, 2) := by decide +kernel
theorem dX3_firstOf_44 : decode cX3_firstOf 44 = .ok (.ifCond .eq 24, 3) := by decide +kernel
theorem dX3_firstOf_47 : decode cX3_firstOf 47 = .ok (.aload_n 0, 1) := by decide +kernel
theorem dX3_firstOf_48 : decode cX3_firstOf 48 = .ok (.getfield 13, 3) := by decide +kernel
theorem dX3_firstOf_51 : decode cX3_firstOf 51 = .ok (.iload 4, 2) := by decide +kernel
theorem dX3_firstOf_53 : decode cX3_firstOf 53 = .ok (.iaload, 1) := by decide +kernel
theorem dX3_firstOf_54 : decode cX3_firstOf 54 = .ok (.iload_n 3, 1) := by decide +kernel
theorem dX3_firstOf_55 : decode cX3_firstOf 55 = .ok (.if_icmp .le 13, 3) := by decide +kernel
theorem dX3_firstOf_58 : decode cX3_firstOf 58 = .ok (.aload_n 0, 1) := by decide +kernel
theorem dX3_firstOf_59 : decode cX3_firstOf 59 = .ok (.getfield 13, 3) := by decide +kernel
theorem dX3_firstOf_62 : decode cX3_firstOf 62 = .ok (.iload 4, 2) := by decide +kernel
theorem dX3_firstOf_64 : decode cX3_firstOf 64 = .ok (.iaload, 1) := by decide +kernel
theorem dX3_firstOf_65 : decode cX3_firstOf 65 = .ok (.goto 4, 3) := by decide +kernel
theorem dX3_firstOf_68 : decode cX3_firstOf 68 = .ok (.iload_n 3, 1) := by decide +kernel
theorem dX3_firstOf_69 : decode cX3_firstOf 69 = .ok (.istore_n 3, 1) := by decide +kernel
theorem dX3_firstOf_70 : decode cX3_firstOf 70 = .ok (.iinc 4 1, 3) := by decide +kernel
theorem dX3_firstOf_73 : decode cX3_firstOf 73 = .ok (.goto (-68), 3) := by decide +kernel
theorem dX3_firstOf_76 : decode cX3_firstOf 76 = .ok (.iload_n 3, 1) := by decide +kernel
theorem dX3_firstOf_77 : decode cX3_firstOf 77 = .ok (.ifCond .ge 8, 3) := by decide +kernel
theorem dX3_firstOf_80 : decode cX3_firstOf 80 = .ok (.bipush 61, 2) := by decide +kernel
theorem dX3_firstOf_82 : decode cX3_firstOf 82 = .ok (.goto 4, 3) := by decide +kernel
theorem dX3_firstOf_85 : decode cX3_firstOf 85 = .ok (.iload_n 3, 1) := by decide +kernel
theorem dX3_firstOf_86 : decode cX3_firstOf 86 = .ok (.ireturn, 1) := by decide +kernel
theorem dX3_lastOf_0 : decode cX3_lastOf 0 = .ok (.bipush 60, 2) := by decide +kernel
theorem dX3_lastOf_2 : decode cX3_lastOf 2 = .ok (.istore_n 3, 1) := by decide +kernel
theorem dX3_lastOf_3 : decode cX3_lastOf 3 = .ok (.iconst 0, 1) := by decide +kernel
theorem dX3_lastOf_4 : decode cX3_lastOf 4 = .ok (.istore 4, 2) := by decide +kernel
theorem dX3_lastOf_6 : decode cX3_lastOf 6 = .ok (.iload 4, 2) := by decide +kernel
theorem dX3_lastOf_8 : decode cX3_lastOf 8 = .ok (.aload_n 0, 1) := by decide +kernel
theorem dX3_lastOf_9 : decode cX3_lastOf 9 = .ok (.getfield 42, 3) := by decide +kernel
theorem dX3_lastOf_12 : decode cX3_lastOf 12 = .ok (.if_icmp .ge 65, 3) := by decide +kernel
theorem dX3_lastOf_15 : decode cX3_lastOf 15 = .ok (.aload_n 0, 1) := by decide +kernel
theorem dX3_lastOf_16 : decode cX3_lastOf 16 = .ok (.getfield 7, 3) := by decide +kernel
theorem dX3_lastOf_19 : decode cX3_lastOf 19 = .ok (.iload 4, 2) := by decide +kernel
theorem dX3_lastOf_21 : decode cX3_lastOf 21 = .ok (.iaload, 1) := by decide +kernel
theorem dX3_lastOf_22 : decode cX3_lastOf 22 = .ok (.iload_n 1, 1) := by decide +kernel
theorem dX3_lastOf_23 : decode cX3_lastOf 23 = .ok (.if_icmp .ne 17, 3) := by decide +kernel
theorem dX3_lastOf_26 : decode cX3_lastOf 26 = .ok (.aload_n 0, 1) := by decide +kernel
theorem dX3_lastOf_27 : decode cX3_lastOf 27 = .ok (.iload 4, 2) := by decide +kernel
theorem dX3_lastOf_29 : decode cX3_lastOf 29 = .ok (.iload_n 2, 1) := by decide +kernel
theorem dX3_lastOf_30 : decode cX3_lastOf 30 = .ok (.invokevirtual 67, 3) := by decide +kernel
theorem dX3_lastOf_33 : decode cX3_lastOf 33 = .ok (.ifCond .eq 7, 3) := by decide +kernel
theorem dX3_lastOf_36 : decode cX3_lastOf 36 = .ok (.iconst 1, 1) := by decide +kernel
theorem dX3_lastOf_37 : decode cX3_lastOf 37 = .ok (.goto 4, 3) := by decide +kernel
theorem dX3_lastOf_40 : decode cX3_lastOf 40 = .ok (.iconst 0, 1) := by decide +kernel
theorem dX3_lastOf_41 : decode cX3_lastOf 41 = .ok (.istore 5, 2) := by decide +kernel
theorem dX3_lastOf_43 : decode cX3_lastOf 43 = .ok (.iload 5, 2) := by decide +kernel
theorem dX3_lastOf_45 : decode cX3_lastOf 45 = .ok (.ifCond .eq 24, 3) := by decide +kernel
theorem dX3_lastOf_48 : decode cX3_lastOf 48 = .ok (.aload_n 0, 1) := by decide +kernel
theorem dX3_lastOf_49 : decode cX3_lastOf 49 = .ok (.getfield 16, 3) := by decide +kernel
theorem dX3_lastOf_52 : decode cX3_lastOf 52 = .ok (.iload 4, 2) := by decide +kernel
theorem dX3_lastOf_54 : decode cX3_lastOf 54 = .ok (.iaload, 1) := by decide +kernel
theorem dX3_lastOf_55 : decode cX3_lastOf 55 = .ok (.iload_n 3, 1) := by decide +kernel
theorem dX3_lastOf_56 : decode cX3_lastOf 56 = .ok (.if_icmp .ge 13, 3) := by decide +kernel
theorem dX3_lastOf_59 : decode cX3_lastOf 59 = .ok (.aload_n 0, 1) := by decide +kernel
theorem dX3_lastOf_60 : decode cX3_lastOf 60 = .ok (.getfield 16, 3) := by decide +kernel
theorem dX3_lastOf_63 : decode cX3_lastOf 63 = .ok (.iload 4, 2) := by decide +kernel
theorem dX3_lastOf_65 : decode cX3_lastOf 65 = .ok (.iaload, 1) := by decide +kernel
theorem dX3_lastOf_66 : decode cX3_lastOf 66 = .ok (.goto 4, 3) := by decide +kernel
theorem dX3_lastOf_69 : decode cX3_lastOf 69 = .ok (.iload_n 3, 1) := by decide +kernel
theorem dX3_lastOf_70 : decode cX3_lastOf 70 = .ok (.istore_n 3, 1) := by decide +kernel
theorem dX3_lastOf_71 : decode cX3_lastOf 71 = .ok (.iinc 4 1, 3) := by decide +kernel
theorem dX3_lastOf_74 : decode cX3_lastOf 74 = .ok (.goto (-68), 3) := by decide +kernel
theorem dX3_lastOf_77 : decode cX3_lastOf 77 = .ok (.iload_n 3, 1) := by decide +kernel
theorem dX3_lastOf_78 : decode cX3_lastOf 78 = .ok (.ireturn, 1) := by decide +kernel
theorem dX3_range_0 : decode cX3_range 0 = .ok (.aload_n 0, 1) := by decide +kernel
theorem dX3_range_1 : decode cX3_range 1 = .ok (.iload_n 1, 1) := by decide +kernel
theorem dX3_range_2 : decode cX3_range 2 = .ok (.invokestatic 52, 3) := by decide +kernel
theorem dX3_range_5 : decode cX3_range 5 = .ok (.ifCond .eq 14, 3) := by decide +kernel
theorem dX3_range_8 : decode cX3_range 8 = .ok (.iload_n 2, 1) := by decide +kernel
theorem dX3_range_9 : decode cX3_range 9 = .ok (.invokestatic 64, 3) := by decide +kernel
theorem dX3_range_12 : decode cX3_range 12 = .ok (.ifCond .eq 7, 3) := by decide +kernel
theorem dX3_range_15 : decode cX3_range 15 = .ok (.iconst 0, 1) := by decide +kernel
theorem dX3_range_16 : decode cX3_range 16 = .ok (.goto 4, 3) := by decide +kernel
theorem dX3_range_19 : decode cX3_range 19 = .ok (.iconst 1, 1) := by decide +kernel
theorem dX3_range_20 : decode cX3_range 20 = .ok (.invokevirtual 58, 3) := by decide +kernel
theorem dX3_range_23 : decode cX3_range 23 = .ok (.ifCond .eq 5, 3) := by decide +kernel
theorem dX3_range_26 : decode cX3_range 26 = .ok (.iconst 0, 1) := by decide +kernel
theorem dX3_range_27 : decode cX3_range 27 = .ok (.ireturn, 1) := by decide +kernel
theorem dX3_range_28 : decode cX3_range 28 = .ok (.aload_n 0, 1) := by decide +kernel
theorem dX3_range_29 : decode cX3_range 29 = .ok (.iload_n 1, 1) := by decide +kernel
theorem dX3_range_30 : decode cX3_range 30 = .ok (.iload_n 2, 1) := by decide +kernel
theorem dX3_range_31 : decode cX3_range 31 = .ok (.invokevirtual 71, 3) := by decide +kernel
theorem dX3_range_34 : decode cX3_range 34 = .ok (.istore_n 3, 1) := by decide +kernel
theorem dX3_range_35 : decode cX3_range 35 = .ok (.aload_n 0, 1) := by decide +kernel
theorem dX3_range_36 : decode cX3_range 36 = .ok (.iload_n 1, 1) := by decide +kernel
theorem dX3_range_37 : decode cX3_range 37 = .ok (.iload_n 2, 1) := by decide +kernel
theorem dX3_range_38 : decode cX3_range 38 = .ok (.invokevirtual 75, 3) := by decide +kernel
theorem dX3_range_41 : decode cX3_range 41 = .ok (.istore 4, 2) := by decide +kernel
theorem dX3_range_43 : decode cX3_range 43 = .ok (.iload_n 3, 1) := by decide +kernel
theorem dX3_range_44 : decode cX3_range 44 = .ok (.iload 4, 2) := by decide +kernel
theorem dX3_range_46 : decode cX3_range 46 = .ok (.if_icmp .le 7, 3) := by decide +kernel
theorem dX3_range_49 : decode cX3_range 49 = .ok (.iconst (-1), 1) := by decide +kernel
theorem dX3_range_50 : decode cX3_range 50 = .ok (.goto 10, 3) := by decide +kernel
theorem dX3_range_53 : decode cX3_range 53 = .ok (.bipush 100, 2) := by decide +kernel
theorem dX3_range_55 : decode cX3_range 55 = .ok (.iload_n 3, 1) := by decide +kernel
theorem dX3_range_56 : decode cX3_range 56 = .ok (.imul, 1) := by decide +kernel
theorem dX3_range_57 : decode cX3_range 57 = .ok (.iload 4, 2) := by decide +kernel
theorem dX3_range_59 : decode cX3_range 59 = .ok (.iadd, 1) := by decide +kernel
theorem dX3_range_60 : decode cX3_range 60 = .ok (.ireturn, 1) := by decide +kernel
theorem dX3_chord_0 : decode cX3_chord 0 = .ok (.iload_n 1, 1) := by decide +kernel
theorem dX3_chord_1 : decode cX3_chord 1 = .ok (.invokestatic 55, 3) := by decide +kernel
theorem dX3_chord_4 : decode cX3_chord 4 = .ok (.ifCond .eq 35, 3) := by decide +kernel
theorem dX3_chord_7 : decode cX3_chord 7 = .ok (.iload_n 2, 1) := by decide +kernel
theorem dX3_chord_8 : decode cX3_chord 8 = .ok (.iconst 0, 1) := by decide +kernel
theorem dX3_chord_9 : decode cX3_chord 9 = .ok (.iload_n 1, 1) := by decide +kernel
theorem dX3_chord_10 : decode cX3_chord 10 = .ok (.invokestatic 38, 3) := by decide +kernel
theorem dX3_chord_13 : decode cX3_chord 13 = .ok (.ifCond .eq 26, 3) := by decide +kernel
theorem dX3_chord_16 : decode cX3_chord 16 = .ok (.iload_n 3, 1) := by decide +kernel
theorem dX3_chord_17 : decode cX3_chord 17 = .ok (.iconst 0, 1) := by decide +kernel
theorem dX3_chord_18 : decode cX3_chord 18 = .ok (.iload_n 2, 1) := by decide +kernel
theorem dX3_chord_19 : decode cX3_chord 19 = .ok (.invokestatic 38, 3) := by decide +kernel
theorem dX3_chord_22 : decode cX3_chord 22 = .ok (.ifCond .eq 17, 3) := by decide +kernel
theorem dX3_chord_25 : decode cX3_chord 25 = .ok (.iload 4, 2) := by decide +kernel
theorem dX3_chord_27 : decode cX3_chord 27 = .ok (.iconst 0, 1) := by decide +kernel
theorem dX3_chord_28 : decode cX3_chord 28 = .ok (.iload_n 3, 1) := by decide +kernel
theorem dX3_chord_29 : decode cX3_chord 29 = .ok (.invokestatic 38, 3) := by decide +kernel
theorem dX3_chord_32 : decode cX3_chord 32 = .ok (.ifCond .eq 7, 3) := by decide +kernel
theorem dX3_chord_35 : decode cX3_chord 35 = .ok (.iconst 1, 1) := by decide +kernel
theorem dX3_chord_36 : decode cX3_chord 36 = .ok (.goto 4, 3) := by decide +kernel
theorem dX3_chord_39 : decode cX3_chord 39 = .ok (.iconst 0, 1) := by decide +kernel
theorem dX3_chord_40 : decode cX3_chord 40 = .ok (.istore 5, 2) := by decide +kernel
theorem dX3_chord_42 : decode cX3_chord 42 = .ok (.aload_n 0, 1) := by decide +kernel
theorem dX3_chord_43 : decode cX3_chord 43 = .ok (.iload 5, 2) := by decide +kernel
theorem dX3_chord_45 : decode cX3_chord 45 = .ok (.ifCond .ne 7, 3) := by decide +kernel
theorem dX3_chord_48 : decode cX3_chord 48 = .ok (.iconst 1, 1) := by decide +kernel
theorem dX3_chord_49 : decode cX3_chord 49 = .ok (.goto 22, 3) := by decide +kernel
theorem dX3_chord_52 : decode cX3_chord 52 = .ok (.aload_n 0, 1) := by decide +kernel
theorem dX3_chord_53 : decode cX3_chord 53 = .ok (.getfield 25, 3) := by decide +kernel
theorem dX3_chord_56 : decode cX3_chord 56 = .ok (.aload_n 0, 1) := by decide +kernel
theorem dX3_chord_57 : decode cX3_chord 57 = .ok (.getfield 45, 3) := by decide +kernel
theorem dX3_chord_60 : decode cX3_chord 60 = .ok (.iaload, 1) := by decide +kernel
theorem dX3_chord_61 : decode cX3_chord 61 = .ok (.bipush 16, 2) := by decide +kernel
theorem dX3_chord_63 : decode cX3_chord 63 = .ok (.if_icmp .ne 7, 3) := by decide +kernel
theorem dX3_chord_66 : decode cX3_chord 66 = .ok (.iconst 2, 1) := by decide +kernel
theorem dX3_chord_67 : decode cX3_chord 67 = .ok (.goto 4, 3) := by decide +kernel
theorem dX3_chord_70 : decode cX3_chord 70 = .ok (.iconst 0, 1) := by decide +kernel
theorem dX3_chord_71 : decode cX3_chord 71 = .ok (.invokevirtual 58, 3) := by decide +kernel
theorem dX3_chord_74 : decode cX3_chord 74 = .ok (.ifCond .eq 5, 3) := by decide +kernel
theorem dX3_chord_77 : decode cX3_chord 77 = .ok (.iconst 0, 1) := by decide +kernel
theorem dX3_chord_78 : decode cX3_chord 78 = .ok (.ireturn, 1) := by decide +kernel
theorem dX3_chord_79 : decode cX3_chord 79 = .ok (.bipush 64, 2) := by decide +kernel
theorem dX3_chord_81 : decode cX3_chord 81 = .ok (.aload_n 0, 1) := by decide +kernel
theorem dX3_chord_82 : decode cX3_chord 82 = .ok (.getfield 45, 3) := by decide +kernel
theorem dX3_chord_85 : decode cX3_chord 85 = .ok (.imul, 1) := by decide +kernel
theorem dX3_chord_86 : decode cX3_chord 86 = .ok (.iconst 4, 1) := by decide +kernel
theorem dX3_chord_87 : decode cX3_chord 87 = .ok (.aload_n 0, 1) := by decide +kernel
theorem dX3_chord_88 : decode cX3_chord 88 = .ok (.getfield 25, 3) := by decide +kernel
theorem dX3_chord_91 : decode cX3_chord 91 = .ok (.aload_n 0, 1) := by decide +kernel
theorem dX3_chord_92 : decode cX3_chord 92 = .ok (.getfield 45, 3) := by decide +kernel
theorem dX3_chord_95 : decode cX3_chord 95 = .ok (.iaload, 1) := by decide +kernel
theorem dX3_chord_96 : decode cX3_chord 96 = .ok (.imul, 1) := by decide +kernel
theorem dX3_chord_97 : decode cX3_chord 97 = .ok (.iadd, 1) := by decide +kernel
theorem dX3_chord_98 : decode cX3_chord 98 = .ok (.istore 6, 2) := by decide +kernel
theorem dX3_chord_100 : decode cX3_chord 100 = .ok (.aload_n 0, 1) := by decide +kernel
theorem dX3_chord_101 : decode cX3_chord 101 = .ok (.getfield 22, 3) := by decide +kernel
theorem dX3_chord_104 : decode cX3_chord 104 = .ok (.iload 6, 2) := by decide +kernel
theorem dX3_chord_106 : decode cX3_chord 106 = .ok (.iload_n 1, 1) := by decide +kernel
theorem dX3_chord_107 : decode cX3_chord 107 = .ok (.iastore, 1) := by decide +kernel
theorem dX3_chord_108 : decode cX3_chord 108 = .ok (.aload_n 0, 1) := by decide +kernel
theorem dX3_chord_109 : decode cX3_chord 109 = .ok (.getfield 22, 3) := by decide +kernel
theorem dX3_chord_112 : decode cX3_chord 112 = .ok (.iload 6, 2) := by decide +kernel
theorem dX3_chord_114 : decode cX3_chord 114 = .ok (.iconst 1, 1) := by decide +kernel
theorem dX3_chord_115 : decode cX3_chord 115 = .ok (.iadd, 1) := by decide +kernel
theorem dX3_chord_116 : decode cX3_chord 116 = .ok (.iload_n 2, 1) := by decide +kernel
theorem dX3_chord_117 : decode cX3_chord 117 = .ok (.iastore, 1) := by decide +kernel
theorem dX3_chord_118 : decode cX3_chord 118 = .ok (.aload_n 0, 1) := by decide +kernel
theorem dX3_chord_119 : decode cX3_chord 119 = .ok (.getfield 22, 3) := by decide +kernel
theorem dX3_chord_122 : decode cX3_chord 122 = .ok (.iload 6, 2) := by decide +kernel
theorem dX3_chord_124 : decode cX3_chord 124 = .ok (.iconst 2, 1) := by decide +kernel
theorem dX3_chord_125 : decode cX3_chord 125 = .ok (.iadd, 1) := by decide +kernel
theorem dX3_chord_126 : decode cX3_chord 126 = .ok (.iload_n 3, 1) := by decide +kernel
theorem dX3_chord_127 : decode cX3_chord 127 = .ok (.iastore, 1) := by decide +kernel
theorem dX3_chord_128 : decode cX3_chord 128 = .ok (.aload_n 0, 1) := by decide +kernel
theorem dX3_chord_129 : decode cX3_chord 129 = .ok (.getfield 22, 3) := by decide +kernel
theorem dX3_chord_132 : decode cX3_chord 132 = .ok (.iload 6, 2) := by decide +kernel
theorem dX3_chord_134 : decode cX3_chord 134 = .ok (.iconst 3, 1) := by decide +kernel
theorem dX3_chord_135 : decode cX3_chord 135 = .ok (.iadd, 1) := by decide +kernel
theorem dX3_chord_136 : decode cX3_chord 136 = .ok (.iload 4, 2) := by decide +kernel
theorem dX3_chord_138 : decode cX3_chord 138 = .ok (.iastore, 1) := by decide +kernel
theorem dX3_chord_139 : decode cX3_chord 139 = .ok (.aload_n 0, 1) := by decide +kernel
theorem dX3_chord_140 : decode cX3_chord 140 = .ok (.getfield 25, 3) := by decide +kernel
theorem dX3_chord_143 : decode cX3_chord 143 = .ok (.aload_n 0, 1) := by decide +kernel
theorem dX3_chord_144 : decode cX3_chord 144 = .ok (.getfield 45, 3) := by decide +kernel
theorem dX3_chord_147 : decode cX3_chord 147 = .ok (.dup2, 1) := by decide +kernel
theorem dX3_chord_148 : decode cX3_chord 148 = .ok (.iaload, 1) := by decide +kernel
theorem dX3_chord_149 : decode cX3_chord 149 = .ok (.iconst 1, 1) := by decide +kernel
theorem dX3_chord_150 : decode cX3_chord 150 = .ok (.iadd, 1) := by decide +kernel
theorem dX3_chord_151 : decode cX3_chord 151 = .ok (.iastore, 1) := by decide +kernel
theorem dX3_chord_152 : decode cX3_chord 152 = .ok (.aload_n 0, 1) := by decide +kernel
theorem dX3_chord_153 : decode cX3_chord 153 = .ok (.getfield 25, 3) := by decide +kernel
theorem dX3_chord_156 : decode cX3_chord 156 = .ok (.aload_n 0, 1) := by decide +kernel
theorem dX3_chord_157 : decode cX3_chord 157 = .ok (.getfield 45, 3) := by decide +kernel
theorem dX3_chord_160 : decode cX3_chord 160 = .ok (.iaload, 1) := by decide +kernel
theorem dX3_chord_161 : decode cX3_chord 161 = .ok (.ireturn, 1) := by decide +kernel
theorem dX3_addPiece_0 : decode cX3_addPiece 0 = .ok (.aload_n 0, 1) := by decide +kernel
theorem dX3_addPiece_1 : decode cX3_addPiece 1 = .ok (.getfield 25, 3) := by decide +kernel
theorem dX3_addPiece_4 : decode cX3_addPiece 4 = .ok (.aload_n 0, 1) := by decide +kernel
theorem dX3_addPiece_5 : decode cX3_addPiece 5 = .ok (.getfield 45, 3) := by decide +kernel
theorem dX3_addPiece_8 : decode cX3_addPiece 8 = .ok (.iaload, 1) := by decide +kernel
theorem dX3_addPiece_9 : decode cX3_addPiece 9 = .ok (.ifCond .le 16, 3) := by decide +kernel
theorem dX3_addPiece_12 : decode cX3_addPiece 12 = .ok (.aload_n 0, 1) := by decide +kernel
theorem dX3_addPiece_13 : decode cX3_addPiece 13 = .ok (.getfield 45, 3) := by decide +kernel
theorem dX3_addPiece_16 : decode cX3_addPiece 16 = .ok (.bipush 6, 2) := by decide +kernel
theorem dX3_addPiece_18 : decode cX3_addPiece 18 = .ok (.if_icmp .ge 7, 3) := by decide +kernel
theorem dX3_addPiece_21 : decode cX3_addPiece 21 = .ok (.iconst 1, 1) := by decide +kernel
theorem dX3_addPiece_22 : decode cX3_addPiece 22 = .ok (.goto 4, 3) := by decide +kernel
theorem dX3_addPiece_25 : decode cX3_addPiece 25 = .ok (.iconst 0, 1) := by decide +kernel
theorem dX3_addPiece_26 : decode cX3_addPiece 26 = .ok (.istore_n 2, 1) := by decide +kernel
theorem dX3_addPiece_27 : decode cX3_addPiece 27 = .ok (.aload_n 0, 1) := by decide +kernel
theorem dX3_addPiece_28 : decode cX3_addPiece 28 = .ok (.iload_n 1, 1) := by decide +kernel
theorem dX3_addPiece_29 : decode cX3_addPiece 29 = .ok (.iconst 1, 1) := by decide +kernel
theorem dX3_addPiece_30 : decode cX3_addPiece 30 = .ok (.sipush 3600, 3) := by decide +kernel
theorem dX3_addPiece_33 : decode cX3_addPiece 33 = .ok (.invokestatic 38, 3) := by decide +kernel
theorem dX3_addPiece_36 : decode cX3_addPiece 36 = .ok (.ifCond .ne 7, 3) := by decide +kernel
theorem dX3_addPiece_39 : decode cX3_addPiece 39 = .ok (.iconst 1, 1) := by decide +kernel
theorem dX3_addPiece_40 : decode cX3_addPiece 40 = .ok (.goto 12, 3) := by decide +kernel
theorem dX3_addPiece_43 : decode cX3_addPiece 43 = .ok (.iload_n 2, 1) := by decide +kernel
theorem dX3_addPiece_44 : decode cX3_addPiece 44 = .ok (.ifCond .eq 7, 3) := by decide +kernel
theorem dX3_addPiece_47 : decode cX3_addPiece 47 = .ok (.iconst 0, 1) := by decide +kernel
theorem dX3_addPiece_48 : decode cX3_addPiece 48 = .ok (.goto 4, 3) := by decide +kernel
theorem dX3_addPiece_51 : decode cX3_addPiece 51 = .ok (.iconst 2, 1) := by decide +kernel
theorem dX3_addPiece_52 : decode cX3_addPiece 52 = .ok (.invokevirtual 58, 3) := by decide +kernel
theorem dX3_addPiece_55 : decode cX3_addPiece 55 = .ok (.ifCond .eq 5, 3) := by decide +kernel
theorem dX3_addPiece_58 : decode cX3_addPiece 58 = .ok (.iconst 0, 1) := by decide +kernel
theorem dX3_addPiece_59 : decode cX3_addPiece 59 = .ok (.ireturn, 1) := by decide +kernel
theorem dX3_addPiece_60 : decode cX3_addPiece 60 = .ok (.aload_n 0, 1) := by decide +kernel
theorem dX3_addPiece_61 : decode cX3_addPiece 61 = .ok (.getfield 28, 3) := by decide +kernel
theorem dX3_addPiece_64 : decode cX3_addPiece 64 = .ok (.aload_n 0, 1) := by decide +kernel
theorem dX3_addPiece_65 : decode cX3_addPiece 65 = .ok (.getfield 45, 3) := by decide +kernel
theorem dX3_addPiece_68 : decode cX3_addPiece 68 = .ok (.iload_n 1, 1) := by decide +kernel
theorem dX3_addPiece_69 : decode cX3_addPiece 69 = .ok (.iastore, 1) := by decide +kernel
theorem dX3_addPiece_70 : decode cX3_addPiece 70 = .ok (.aload_n 0, 1) := by decide +kernel
theorem dX3_addPiece_71 : decode cX3_addPiece 71 = .ok (.dup, 1) := by decide +kernel
theorem dX3_addPiece_72 : decode cX3_addPiece 72 = .ok (.getfield 45, 3) := by decide +kernel
theorem dX3_addPiece_75 : decode cX3_addPiece 75 = .ok (.iconst 1, 1) := by decide +kernel
theorem dX3_addPiece_76 : decode cX3_addPiece 76 = .ok (.iadd, 1) := by decide +kernel
theorem dX3_addPiece_77 : decode cX3_addPiece 77 = .ok (.putfield 45, 3) := by decide +kernel
theorem dX3_addPiece_80 : decode cX3_addPiece 80 = .ok (.aload_n 0, 1) := by decide +kernel
theorem dX3_addPiece_81 : decode cX3_addPiece 81 = .ok (.getfield 45, 3) := by decide +kernel
theorem dX3_addPiece_84 : decode cX3_addPiece 84 = .ok (.iconst 1, 1) := by decide +kernel
theorem dX3_addPiece_85 : decode cX3_addPiece 85 = .ok (.isub, 1) := by decide +kernel
theorem dX3_addPiece_86 : decode cX3_addPiece 86 = .ok (.ireturn, 1) := by decide +kernel
theorem dX3_toneAt_0 : decode cX3_toneAt 0 = .ok (.aload_n 0, 1) := by decide +kernel
theorem dX3_toneAt_1 : decode cX3_toneAt 1 = .ok (.getfield 22, 3) := by decide +kernel
theorem dX3_toneAt_4 : decode cX3_toneAt 4 = .ok (.bipush 64, 2) := by decide +kernel
theorem dX3_toneAt_6 : decode cX3_toneAt 6 = .ok (.iload_n 1, 1) := by decide +kernel
theorem dX3_toneAt_7 : decode cX3_toneAt 7 = .ok (.imul, 1) := by decide +kernel
theorem dX3_toneAt_8 : decode cX3_toneAt 8 = .ok (.iconst 4, 1) := by decide +kernel
theorem dX3_toneAt_9 : decode cX3_toneAt 9 = .ok (.iload_n 2, 1) := by decide +kernel
theorem dX3_toneAt_10 : decode cX3_toneAt 10 = .ok (.imul, 1) := by decide +kernel
theorem dX3_toneAt_11 : decode cX3_toneAt 11 = .ok (.iadd, 1) := by decide +kernel
theorem dX3_toneAt_12 : decode cX3_toneAt 12 = .ok (.iload_n 3, 1) := by decide +kernel
theorem dX3_toneAt_13 : decode cX3_toneAt 13 = .ok (.iadd, 1) := by decide +kernel
theorem dX3_toneAt_14 : decode cX3_toneAt 14 = .ok (.iaload, 1) := by decide +kernel
theorem dX3_toneAt_15 : decode cX3_toneAt 15 = .ok (.ireturn, 1) := by decide +kernel
theorem dX3_floorOf_0 : decode cX3_floorOf 0 = .ok (.iload_n 3, 1) := by decide +kernel
theorem dX3_floorOf_1 : decode cX3_floorOf 1 = .ok (.iconst 3, 1) := by decide +kernel
theorem dX3_floorOf_2 : decode cX3_floorOf 2 = .ok (.if_icmp .ne 7, 3) := by decide +kernel
theorem dX3_floorOf_5 : decode cX3_floorOf 5 = .ok (.iconst 0, 1) := by decide +kernel
theorem dX3_floorOf_6 : decode cX3_floorOf 6 = .ok (.goto 12, 3) := by decide +kernel
theorem dX3_floorOf_9 : decode cX3_floorOf 9 = .ok (.aload_n 0, 1) := by decide +kernel
theorem dX3_floorOf_10 : decode cX3_floorOf 10 = .ok (.iload_n 1, 1) := by decide +kernel
theorem dX3_floorOf_11 : decode cX3_floorOf 11 = .ok (.iload_n 2, 1) := by decide +kernel
theorem dX3_floorOf_12 : decode cX3_floorOf 12 = .ok (.iload_n 3, 1) := by decide +kernel
theorem dX3_floorOf_13 : decode cX3_floorOf 13 = .ok (.iconst 1, 1) := by decide +kernel
theorem dX3_floorOf_14 : decode cX3_floorOf 14 = .ok (.iadd, 1) := by decide +kernel
theorem dX3_floorOf_15 : decode cX3_floorOf 15 = .ok (.invokevirtual 78, 3) := by decide +kernel
theorem dX3_floorOf_18 : decode cX3_floorOf 18 = .ok (.ireturn, 1) := by decide +kernel
theorem dX3_roofOf_0 : decode cX3_roofOf 0 = .ok (.iload_n 3, 1) := by decide +kernel
theorem dX3_roofOf_1 : decode cX3_roofOf 1 = .ok (.ifCond .ne 8, 3) := by decide +kernel
theorem dX3_roofOf_4 : decode cX3_roofOf 4 = .ok (.bipush 60, 2) := by decide +kernel
theorem dX3_roofOf_6 : decode cX3_roofOf 6 = .ok (.goto 12, 3) := by decide +kernel
theorem dX3_roofOf_9 : decode cX3_roofOf 9 = .ok (.aload_n 0, 1) := by decide +kernel
theorem dX3_roofOf_10 : decode cX3_roofOf 10 = .ok (.iload_n 1, 1) := by decide +kernel
theorem dX3_roofOf_11 : decode cX3_roofOf 11 = .ok (.iload_n 2, 1) := by decide +kernel
theorem dX3_roofOf_12 : decode cX3_roofOf 12 = .ok (.iload_n 3, 1) := by decide +kernel
theorem dX3_roofOf_13 : decode cX3_roofOf 13 = .ok (.iconst 1, 1) := by decide +kernel
theorem dX3_roofOf_14 : decode cX3_roofOf 14 = .ok (.isub, 1) := by decide +kernel
theorem dX3_roofOf_15 : decode cX3_roofOf 15 = .ok (.invokevirtual 78, 3) := by decide +kernel
theorem dX3_roofOf_18 : decode cX3_roofOf 18 = .ok (.ireturn, 1) := by decide +kernel
theorem dX3_setTone_0 : decode cX3_setTone 0 = .ok (.iload_n 3, 1) := by decide +kernel
theorem dX3_setTone_1 : decode cX3_setTone 1 = .ok (.invokestatic 52, 3) := by decide +kernel
theorem dX3_setTone_4 : decode cX3_setTone 4 = .ok (.ifCond .eq 15, 3) := by decide +kernel
theorem dX3_setTone_7 : decode cX3_setTone 7 = .ok (.iload 4, 2) := by decide +kernel
theorem dX3_setTone_9 : decode cX3_setTone 9 = .ok (.invokestatic 55, 3) := by decide +kernel
theorem dX3_setTone_12 : decode cX3_setTone 12 = .ok (.ifCond .eq 7, 3) := by decide +kernel
theorem dX3_setTone_15 : decode cX3_setTone 15 = .ok (.iconst 1, 1) := by decide +kernel
theorem dX3_setTone_16 : decode cX3_setTone 16 = .ok (.goto 4, 3) := by decide +kernel
theorem dX3_setTone_19 : decode cX3_setTone 19 = .ok (.iconst 0, 1) := by decide +kernel
theorem dX3_setTone_20 : decode cX3_setTone 20 = .ok (.istore 5, 2) := by decide +kernel
theorem dX3_setTone_22 : decode cX3_setTone 22 = .ok (.aload_n 0, 1) := by decide +kernel
theorem dX3_setTone_23 : decode cX3_setTone 23 = .ok (.iload_n 1, 1) := by decide +kernel
theorem dX3_setTone_24 : decode cX3_setTone 24 = .ok (.iload_n 2, 1) := by decide +kernel
theorem dX3_setTone_25 : decode cX3_setTone 25 = .ok (.invokevirtual 82, 3) := by decide +kernel
theorem dX3_setTone_28 : decode cX3_setTone 28 = .ok (.ifCond .eq 34, 3) := by decide +kernel
theorem dX3_setTone_31 : decode cX3_setTone 31 = .ok (.iload 5, 2) := by decide +kernel
theorem dX3_setTone_33 : decode cX3_setTone 33 = .ok (.ifCond .eq 29, 3) := by decide +kernel
theorem dX3_setTone_36 : decode cX3_setTone 36 = .ok (.iload 4, 2) := by decide +kernel
theorem dX3_setTone_38 : decode cX3_setTone 38 = .ok (.aload_n 0, 1) := by decide +kernel
theorem dX3_setTone_39 : decode cX3_setTone 39 = .ok (.iload_n 1, 1) := by decide +kernel
theorem dX3_setTone_40 : decode cX3_setTone 40 = .ok (.iload_n 2, 1) := by decide +kernel
theorem dX3_setTone_41 : decode cX3_setTone 41 = .ok (.iload_n 3, 1) := by decide +kernel
theorem dX3_setTone_42 : decode cX3_setTone 42 = .ok (.invokevirtual 85, 3) := by decide +kernel
theorem dX3_setTone_45 : decode cX3_setTone 45 = .ok (.aload_n 0, 1) := by decide +kernel
theorem dX3_setTone_46 : decode cX3_setTone 46 = .ok (.iload_n 1, 1) := by decide +kernel
theorem dX3_setTone_47 : decode cX3_setTone 47 = .ok (.iload_n 2, 1) := by decide +kernel
theorem dX3_setTone_48 : decode cX3_setTone 48 = .ok (.iload_n 3, 1) := by decide +kernel
theorem dX3_setTone_49 : decode cX3_setTone 49 = .ok (.invokevirtual 88, 3) := by decide +kernel
theorem dX3_setTone_52 : decode cX3_setTone 52 = .ok (.invokestatic 38, 3) := by decide +kernel
theorem dX3_setTone_55 : decode cX3_setTone 55 = .ok (.ifCond .eq 7, 3) := by decide +kernel
theorem dX3_setTone_58 : decode cX3_setTone 58 = .ok (.iconst 1, 1) := by decide +kernel
theorem dX3_setTone_59 : decode cX3_setTone 59 = .ok (.goto 4, 3) := by decide +kernel
theorem dX3_setTone_62 : decode cX3_setTone 62 = .ok (.iconst 0, 1) := by decide +kernel
theorem dX3_setTone_63 : decode cX3_setTone 63 = .ok (.istore 6, 2) := by decide +kernel
theorem dX3_setTone_65 : decode cX3_setTone 65 = .ok (.aload_n 0, 1) := by decide +kernel
theorem dX3_setTone_66 : decode cX3_setTone 66 = .ok (.aload_n 0, 1) := by decide +kernel
theorem dX3_setTone_67 : decode cX3_setTone 67 = .ok (.iload_n 1, 1) := by decide +kernel
theorem dX3_setTone_68 : decode cX3_setTone 68 = .ok (.iload_n 2, 1) := by decide +kernel
theorem dX3_setTone_69 : decode cX3_setTone 69 = .ok (.invokevirtual 82, 3) := by decide +kernel
theorem dX3_setTone_72 : decode cX3_setTone 72 = .ok (.ifCond .ne 7, 3) := by decide +kernel
theorem dX3_setTone_75 : decode cX3_setTone 75 = .ok (.iconst 1, 1) := by decide +kernel
theorem dX3_setTone_76 : decode cX3_setTone 76 = .ok (.goto 22, 3) := by decide +kernel
theorem dX3_setTone_79 : decode cX3_setTone 79 = .ok (.iload 5, 2) := by decide +kernel
theorem dX3_setTone_81 : decode cX3_setTone 81 = .ok (.ifCond .ne 7, 3) := by decide +kernel
theorem dX3_setTone_84 : decode cX3_setTone 84 = .ok (.iconst 2, 1) := by decide +kernel
theorem dX3_setTone_85 : decode cX3_setTone 85 = .ok (.goto 13, 3) := by decide +kernel
theorem dX3_setTone_88 : decode cX3_setTone 88 = .ok (.iload 6, 2) := by decide +kernel
theorem dX3_setTone_90 : decode cX3_setTone 90 = .ok (.ifCond .eq 7, 3) := by decide +kernel
theorem dX3_setTone_93 : decode cX3_setTone 93 = .ok (.iconst 0, 1) := by decide +kernel
theorem dX3_setTone_94 : decode cX3_setTone 94 = .ok (.goto 4, 3) := by decide +kernel
theorem dX3_setTone_97 : decode cX3_setTone 97 = .ok (.iconst 3, 1) := by decide +kernel
theorem dX3_setTone_98 : decode cX3_setTone 98 = .ok (.invokevirtual 58, 3) := by decide +kernel
theorem dX3_setTone_101 : decode cX3_setTone 101 = .ok (.ifCond .eq 5, 3) := by decide +kernel
theorem dX3_setTone_104 : decode cX3_setTone 104 = .ok (.iconst 0, 1) := by decide +kernel
theorem dX3_setTone_105 : decode cX3_setTone 105 = .ok (.ireturn, 1) := by decide +kernel
theorem dX3_setTone_106 : decode cX3_setTone 106 = .ok (.aload_n 0, 1) := by decide +kernel
theorem dX3_setTone_107 : decode cX3_setTone 107 = .ok (.iload_n 1, 1) := by decide +kernel
theorem dX3_setTone_108 : decode cX3_setTone 108 = .ok (.iload_n 2, 1) := by decide +kernel
theorem dX3_setTone_109 : decode cX3_setTone 109 = .ok (.iload_n 3, 1) := by decide +kernel
theorem dX3_setTone_110 : decode cX3_setTone 110 = .ok (.invokevirtual 78, 3) := by decide +kernel
theorem dX3_setTone_113 : decode cX3_setTone 113 = .ok (.istore 7, 2) := by decide +kernel
theorem dX3_setTone_115 : decode cX3_setTone 115 = .ok (.aload_n 0, 1) := by decide +kernel
theorem dX3_setTone_116 : decode cX3_setTone 116 = .ok (.getfield 22, 3) := by decide +kernel
theorem dX3_setTone_119 : decode cX3_setTone 119 = .ok (.bipush 64, 2) := by decide +kernel
theorem dX3_setTone_121 : decode cX3_setTone 121 = .ok (.iload_n 1, 1) := by decide +kernel
theorem dX3_setTone_122 : decode cX3_setTone 122 = .ok (.imul, 1) := by decide +kernel
theorem dX3_setTone_123 : decode cX3_setTone 123 = .ok (.iconst 4, 1) := by decide +kernel
theorem dX3_setTone_124 : decode cX3_setTone 124 = .ok (.iload_n 2, 1) := by decide +kernel
theorem dX3_setTone_125 : decode cX3_setTone 125 = .ok (.imul, 1) := by decide +kernel
theorem dX3_setTone_126 : decode cX3_setTone 126 = .ok (.iadd, 1) := by decide +kernel
theorem dX3_setTone_127 : decode cX3_setTone 127 = .ok (.iload_n 3, 1) := by decide +kernel
theorem dX3_setTone_128 : decode cX3_setTone 128 = .ok (.iadd, 1) := by decide +kernel
theorem dX3_setTone_129 : decode cX3_setTone 129 = .ok (.iload 4, 2) := by decide +kernel
theorem dX3_setTone_131 : decode cX3_setTone 131 = .ok (.iastore, 1) := by decide +kernel
theorem dX3_setTone_132 : decode cX3_setTone 132 = .ok (.iload 7, 2) := by decide +kernel
theorem dX3_setTone_134 : decode cX3_setTone 134 = .ok (.ireturn, 1) := by decide +kernel
theorem dX3_isParallel_0 : decode cX3_isParallel 0 = .ok (.aload_n 0, 1) := by decide +kernel
theorem dX3_isParallel_1 : decode cX3_isParallel 1 = .ok (.iload_n 1, 1) := by decide +kernel
theorem dX3_isParallel_2 : decode cX3_isParallel 2 = .ok (.iload_n 2, 1) := by decide +kernel
theorem dX3_isParallel_3 : decode cX3_isParallel 3 = .ok (.iload_n 3, 1) := by decide +kernel
theorem dX3_isParallel_4 : decode cX3_isParallel 4 = .ok (.invokevirtual 78, 3) := by decide +kernel
theorem dX3_isParallel_7 : decode cX3_isParallel 7 = .ok (.aload_n 0, 1) := by decide +kernel
theorem dX3_isParallel_8 : decode cX3_isParallel 8 = .ok (.iload_n 1, 1) := by decide +kernel
theorem dX3_isParallel_9 : decode cX3_isParallel 9 = .ok (.iload_n 2, 1) := by decide +kernel
theorem dX3_isParallel_10 : decode cX3_isParallel 10 = .ok (.iconst 1, 1) := by decide +kernel
theorem dX3_isParallel_11 : decode cX3_isParallel 11 = .ok (.isub, 1) := by decide +kernel
theorem dX3_isParallel_12 : decode cX3_isParallel 12 = .ok (.iload_n 3, 1) := by decide +kernel
theorem dX3_isParallel_13 : decode cX3_isParallel 13 = .ok (.invokevirtual 78, 3) := by decide +kernel
theorem dX3_isParallel_16 : decode cX3_isParallel 16 = .ok (.isub, 1) := by decide +kernel
theorem dX3_isParallel_17 : decode cX3_isParallel 17 = .ok (.istore 5, 2) := by decide +kernel
theorem dX3_isParallel_19 : decode cX3_isParallel 19 = .ok (.aload_n 0, 1) := by decide +kernel
theorem dX3_isParallel_20 : decode cX3_isParallel 20 = .ok (.iload_n 1, 1) := by decide +kernel
theorem dX3_isParallel_21 : decode cX3_isParallel 21 = .ok (.iload_n 2, 1) := by decide +kernel
theorem dX3_isParallel_22 : decode cX3_isParallel 22 = .ok (.iload 4, 2) := by decide +kernel
theorem dX3_isParallel_24 : decode cX3_isParallel 24 = .ok (.invokevirtual 78, 3) := by decide +kernel
theorem dX3_isParallel_27 : decode cX3_isParallel 27 = .ok (.aload_n 0, 1) := by decide +kernel
theorem dX3_isParallel_28 : decode cX3_isParallel 28 = .ok (.iload_n 1, 1) := by decide +kernel
theorem dX3_isParallel_29 : decode cX3_isParallel 29 = .ok (.iload_n 2, 1) := by decide +kernel
theorem dX3_isParallel_30 : decode cX3_isParallel 30 = .ok (.iconst 1, 1) := by decide +kernel
theorem dX3_isParallel_31 : decode cX3_isParallel 31 = .ok (.isub, 1) := by decide +kernel
theorem dX3_isParallel_32 : decode cX3_isParallel 32 = .ok (.iload 4, 2) := by decide +kernel
theorem dX3_isParallel_34 : decode cX3_isParallel 34 = .ok (.invokevirtual 78, 3) := by decide +kernel
theorem dX3_isParallel_37 : decode cX3_isParallel 37 = .ok (.isub, 1) := by decide +kernel
theorem dX3_isParallel_38 : decode cX3_isParallel 38 = .ok (.istore 6, 2) := by decide +kernel
theorem dX3_isParallel_40 : decode cX3_isParallel 40 = .ok (.aload_n 0, 1) := by decide +kernel
theorem dX3_isParallel_41 : decode cX3_isParallel 41 = .ok (.iload_n 1, 1) := by decide +kernel
theorem dX3_isParallel_42 : decode cX3_isParallel 42 = .ok (.iload_n 2, 1) := by decide +kernel
theorem dX3_isParallel_43 : decode cX3_isParallel 43 = .ok (.iload_n 3, 1) := by decide +kernel
theorem dX3_isParallel_44 : decode cX3_isParallel 44 = .ok (.invokevirtual 78, 3) := by decide +kernel
theorem dX3_isParallel_47 : decode cX3_isParallel 47 = .ok (.aload_n 0, 1) := by decide +kernel
theorem dX3_isParallel_48 : decode cX3_isParallel 48 = .ok (.iload_n 1, 1) := by decide +kernel
theorem dX3_isParallel_49 : decode cX3_isParallel 49 = .ok (.iload_n 2, 1) := by decide +kernel
theorem dX3_isParallel_50 : decode cX3_isParallel 50 = .ok (.iload 4, 2) := by decide +kernel
theorem dX3_isParallel_52 : decode cX3_isParallel 52 = .ok (.invokevirtual 78, 3) := by decide +kernel
theorem dX3_isParallel_55 : decode cX3_isParallel 55 = .ok (.isub, 1) := by decide +kernel
theorem dX3_isParallel_56 : decode cX3_isParallel 56 = .ok (.istore 7, 2) := by decide +kernel
theorem dX3_isParallel_58 : decode cX3_isParallel 58 = .ok (.iload 7, 2) := by decide +kernel
theorem dX3_isParallel_60 : decode cX3_isParallel 60 = .ok (.bipush 12, 2) := by decide +kernel
theorem dX3_isParallel_62 : decode cX3_isParallel 62 = .ok (.if_icmp .le 9, 3) := by decide +kernel
theorem dX3_isParallel_65 : decode cX3_isParallel 65 = .ok (.iinc 7 (-12), 3) := by decide +kernel
theorem dX3_isParallel_68 : decode cX3_isParallel 68 = .ok (.goto (-10), 3) := by decide +kernel
theorem dX3_isParallel_71 : decode cX3_isParallel 71 = .ok (.iload 5, 2) := by decide +kernel
theorem dX3_isParallel_73 : decode cX3_isParallel 73 = .ok (.ifCond .eq 33, 3) := by decide +kernel
theorem dX3_isParallel_76 : decode cX3_isParallel 76 = .ok (.iload 5, 2) := by decide +kernel
theorem dX3_isParallel_78 : decode cX3_isParallel 78 = .ok (.iload 6, 2) := by decide +kernel
theorem dX3_isParallel_80 : decode cX3_isParallel 80 = .ok (.if_icmp .ne 26, 3) := by decide +kernel
theorem dX3_isParallel_83 : decode cX3_isParallel 83 = .ok (.iload 7, 2) := by decide +kernel
theorem dX3_isParallel_85 : decode cX3_isParallel 85 = .ok (.ifCond .eq 17, 3) := by decide +kernel
theorem dX3_isParallel_88 : decode cX3_isParallel 88 = .ok (.iload 7, 2) := by decide +kernel
theorem dX3_isParallel_90 : decode cX3_isParallel 90 = .ok (.bipush 7, 2) := by decide +kernel
theorem dX3_isParallel_92 : decode cX3_isParallel 92 = .ok (.if_icmp .eq 10, 3) := by decide +kernel
theorem dX3_isParallel_95 : decode cX3_isParallel 95 = .ok (.iload 7, 2) := by decide +kernel
theorem dX3_isParallel_97 : decode cX3_isParallel 97 = .ok (.bipush 12, 2) := by decide +kernel
theorem dX3_isParallel_99 : decode cX3_isParallel 99 = .ok (.if_icmp .ne 7, 3) := by decide +kernel
theorem dX3_isParallel_102 : decode cX3_isParallel 102 = .ok (.iconst 1, 1) := by decide +kernel
theorem dX3_isParallel_103 : decode cX3_isParallel 103 = .ok (.goto 4, 3) := by decide +kernel
theorem dX3_isParallel_106 : decode cX3_isParallel 106 = .ok (.iconst 0, 1) := by decide +kernel
theorem dX3_isParallel_107 : decode cX3_isParallel 107 = .ok (.ireturn, 1) := by decide +kernel
theorem dX3_faultsOf_0 : decode cX3_faultsOf 0 = .ok (.iconst 0, 1) := by decide +kernel
theorem dX3_faultsOf_1 : decode cX3_faultsOf 1 = .ok (.istore_n 3, 1) := by decide +kernel
theorem dX3_faultsOf_2 : decode cX3_faultsOf 2 = .ok (.iconst 0, 1) := by decide +kernel
theorem dX3_faultsOf_3 : decode cX3_faultsOf 3 = .ok (.istore 4, 2) := by decide +kernel
theorem dX3_faultsOf_5 : decode cX3_faultsOf 5 = .ok (.iload 4, 2) := by decide +kernel
theorem dX3_faultsOf_7 : decode cX3_faultsOf 7 = .ok (.iconst 4, 1) := by decide +kernel
theorem dX3_faultsOf_8 : decode cX3_faultsOf 8 = .ok (.if_icmp .ge 93, 3) := by decide +kernel
theorem dX3_faultsOf_11 : decode cX3_faultsOf 11 = .ok (.iload_n 2, 1) := by decide +kernel
theorem dX3_faultsOf_12 : decode cX3_faultsOf 12 = .ok (.ifCond .le 89, 3) := by decide +kernel
theorem dX3_faultsOf_15 : decode cX3_faultsOf 15 = .ok (.aload_n 0, 1) := by decide +kernel
theorem dX3_faultsOf_16 : decode cX3_faultsOf 16 = .ok (.iload_n 1, 1) := by decide +kernel
theorem dX3_faultsOf_17 : decode cX3_faultsOf 17 = .ok (.iload_n 2, 1) := by decide +kernel
theorem dX3_faultsOf_18 : decode cX3_faultsOf 18 = .ok (.iload 4, 2) := by decide +kernel
theorem dX3_faultsOf_20 : decode cX3_faultsOf 20 = .ok (.invokevirtual 78, 3) := by decide +kernel
theorem dX3_faultsOf_23 : decode cX3_faultsOf 23 = .ok (.aload_n 0, 1) := by decide +kernel
theorem dX3_faultsOf_24 : decode cX3_faultsOf 24 = .ok (.iload_n 1, 1) := by decide +kernel
theorem dX3_faultsOf_25 : decode cX3_faultsOf 25 = .ok (.iload_n 2, 1) := by decide +kernel
end
section
theorem dX3_faultsOf_26 : decode cX3_faultsOf 26 = .ok (.iconst 1, 1) := by decide +kernel
theorem dX3_faultsOf_27 : decode cX3_faultsOf 27 = .ok (.isub, 1) := by decide +kernel
theorem dX3_faultsOf_28 : decode cX3_faultsOf 28 = .ok (.iload 4, 2) := by decide +kernel
theorem dX3_faultsOf_30 : decode cX3_faultsOf 30 = .ok (.invokevirtual 78, 3) := by decide +kernel
theorem dX3_faultsOf_33 : decode cX3_faultsOf 33 = .ok (.isub, 1) := by decide +kernel
theorem dX3_faultsOf_34 : decode cX3_faultsOf 34 = .ok (.istore 5, 2) := by decide +kernel
theorem dX3_faultsOf_36 : decode cX3_faultsOf 36 = .ok (.iload_n 3, 1) := by decide +kernel
theorem dX3_faultsOf_37 : decode cX3_faultsOf 37 = .ok (.iload 5, 2) := by decide +kernel
theorem dX3_faultsOf_39 : decode cX3_faultsOf 39 = .ok (.bipush (-7), 2) := by decide +kernel
theorem dX3_faultsOf_41 : decode cX3_faultsOf 41 = .ok (.bipush 7, 2) := by decide +kernel
theorem dX3_faultsOf_43 : decode cX3_faultsOf 43 = .ok (.invokestatic 38, 3) := by decide +kernel
theorem dX3_faultsOf_46 : decode cX3_faultsOf 46 = .ok (.ifCond .eq 7, 3) := by decide +kernel
theorem dX3_faultsOf_49 : decode cX3_faultsOf 49 = .ok (.iconst 0, 1) := by decide +kernel
theorem dX3_faultsOf_50 : decode cX3_faultsOf 50 = .ok (.goto 4, 3) := by decide +kernel
theorem dX3_faultsOf_53 : decode cX3_faultsOf 53 = .ok (.iconst 1, 1) := by decide +kernel
theorem dX3_faultsOf_54 : decode cX3_faultsOf 54 = .ok (.iadd, 1) := by decide +kernel
theorem dX3_faultsOf_55 : decode cX3_faultsOf 55 = .ok (.istore_n 3, 1) := by decide +kernel
theorem dX3_faultsOf_56 : decode cX3_faultsOf 56 = .ok (.iload 4, 2) := by decide +kernel
theorem dX3_faultsOf_58 : decode cX3_faultsOf 58 = .ok (.iconst 1, 1) := by decide +kernel
theorem dX3_faultsOf_59 : decode cX3_faultsOf 59 = .ok (.iadd, 1) := by decide +kernel
theorem dX3_faultsOf_60 : decode cX3_faultsOf 60 = .ok (.istore 6, 2) := by decide +kernel
theorem dX3_faultsOf_62 : decode cX3_faultsOf 62 = .ok (.iload 6, 2) := by decide +kernel
theorem dX3_faultsOf_64 : decode cX3_faultsOf 64 = .ok (.iconst 4, 1) := by decide +kernel
theorem dX3_faultsOf_65 : decode cX3_faultsOf 65 = .ok (.if_icmp .ge 30, 3) := by decide +kernel
theorem dX3_faultsOf_68 : decode cX3_faultsOf 68 = .ok (.iload_n 3, 1) := by decide +kernel
theorem dX3_faultsOf_69 : decode cX3_faultsOf 69 = .ok (.aload_n 0, 1) := by decide +kernel
theorem dX3_faultsOf_70 : decode cX3_faultsOf 70 = .ok (.iload_n 1, 1) := by decide +kernel
theorem dX3_faultsOf_71 : decode cX3_faultsOf 71 = .ok (.iload_n 2, 1) := by decide +kernel
theorem dX3_faultsOf_72 : decode cX3_faultsOf 72 = .ok (.iload 4, 2) := by decide +kernel
theorem dX3_faultsOf_74 : decode cX3_faultsOf 74 = .ok (.iload 6, 2) := by decide +kernel
theorem dX3_faultsOf_76 : decode cX3_faultsOf 76 = .ok (.invokevirtual 91, 3) := by decide +kernel
theorem dX3_faultsOf_79 : decode cX3_faultsOf 79 = .ok (.ifCond .eq 7, 3) := by decide +kernel
theorem dX3_faultsOf_82 : decode cX3_faultsOf 82 = .ok (.iconst 3, 1) := by decide +kernel
theorem dX3_faultsOf_83 : decode cX3_faultsOf 83 = .ok (.goto 4, 3) := by decide +kernel
theorem dX3_faultsOf_86 : decode cX3_faultsOf 86 = .ok (.iconst 0, 1) := by decide +kernel
theorem dX3_faultsOf_87 : decode cX3_faultsOf 87 = .ok (.iadd, 1) := by decide +kernel
theorem dX3_faultsOf_88 : decode cX3_faultsOf 88 = .ok (.istore_n 3, 1) := by decide +kernel
theorem dX3_faultsOf_89 : decode cX3_faultsOf 89 = .ok (.iinc 6 1, 3) := by decide +kernel
theorem dX3_faultsOf_92 : decode cX3_faultsOf 92 = .ok (.goto (-30), 3) := by decide +kernel
theorem dX3_faultsOf_95 : decode cX3_faultsOf 95 = .ok (.iinc 4 1, 3) := by decide +kernel
theorem dX3_faultsOf_98 : decode cX3_faultsOf 98 = .ok (.goto (-93), 3) := by decide +kernel
theorem dX3_faultsOf_101 : decode cX3_faultsOf 101 = .ok (.iload_n 3, 1) := by decide +kernel
theorem dX3_faultsOf_102 : decode cX3_faultsOf 102 = .ok (.ireturn, 1) := by decide +kernel
theorem dX3_faultsAt_0 : decode cX3_faultsAt 0 = .ok (.aload_n 0, 1) := by decide +kernel
theorem dX3_faultsAt_1 : decode cX3_faultsAt 1 = .ok (.aload_n 0, 1) := by decide +kernel
theorem dX3_faultsAt_2 : decode cX3_faultsAt 2 = .ok (.iload_n 1, 1) := by decide +kernel
theorem dX3_faultsAt_3 : decode cX3_faultsAt 3 = .ok (.iload_n 2, 1) := by decide +kernel
theorem dX3_faultsAt_4 : decode cX3_faultsAt 4 = .ok (.invokevirtual 82, 3) := by decide +kernel
theorem dX3_faultsAt_7 : decode cX3_faultsAt 7 = .ok (.ifCond .eq 7, 3) := by decide +kernel
theorem dX3_faultsAt_10 : decode cX3_faultsAt 10 = .ok (.iconst 0, 1) := by decide +kernel
theorem dX3_faultsAt_11 : decode cX3_faultsAt 11 = .ok (.goto 4, 3) := by decide +kernel
theorem dX3_faultsAt_14 : decode cX3_faultsAt 14 = .ok (.iconst 1, 1) := by decide +kernel
theorem dX3_faultsAt_15 : decode cX3_faultsAt 15 = .ok (.invokevirtual 58, 3) := by decide +kernel
theorem dX3_faultsAt_18 : decode cX3_faultsAt 18 = .ok (.ifCond .eq 7, 3) := by decide +kernel
theorem dX3_faultsAt_21 : decode cX3_faultsAt 21 = .ok (.iconst 0, 1) := by decide +kernel
theorem dX3_faultsAt_22 : decode cX3_faultsAt 22 = .ok (.goto 9, 3) := by decide +kernel
theorem dX3_faultsAt_25 : decode cX3_faultsAt 25 = .ok (.aload_n 0, 1) := by decide +kernel
theorem dX3_faultsAt_26 : decode cX3_faultsAt 26 = .ok (.iload_n 1, 1) := by decide +kernel
theorem dX3_faultsAt_27 : decode cX3_faultsAt 27 = .ok (.iload_n 2, 1) := by decide +kernel
theorem dX3_faultsAt_28 : decode cX3_faultsAt 28 = .ok (.invokevirtual 95, 3) := by decide +kernel
theorem dX3_faultsAt_31 : decode cX3_faultsAt 31 = .ok (.ireturn, 1) := by decide +kernel
theorem dX3_allFaults_0 : decode cX3_allFaults 0 = .ok (.iconst 0, 1) := by decide +kernel
theorem dX3_allFaults_1 : decode cX3_allFaults 1 = .ok (.istore_n 2, 1) := by decide +kernel
theorem dX3_allFaults_2 : decode cX3_allFaults 2 = .ok (.iconst 1, 1) := by decide +kernel
theorem dX3_allFaults_3 : decode cX3_allFaults 3 = .ok (.istore_n 3, 1) := by decide +kernel
theorem dX3_allFaults_4 : decode cX3_allFaults 4 = .ok (.iload_n 3, 1) := by decide +kernel
theorem dX3_allFaults_5 : decode cX3_allFaults 5 = .ok (.aload_n 0, 1) := by decide +kernel
theorem dX3_allFaults_6 : decode cX3_allFaults 6 = .ok (.getfield 25, 3) := by decide +kernel
theorem dX3_allFaults_9 : decode cX3_allFaults 9 = .ok (.iload_n 1, 1) := by decide +kernel
theorem dX3_allFaults_10 : decode cX3_allFaults 10 = .ok (.iaload, 1) := by decide +kernel
theorem dX3_allFaults_11 : decode cX3_allFaults 11 = .ok (.if_icmp .ge 18, 3) := by decide +kernel
theorem dX3_allFaults_14 : decode cX3_allFaults 14 = .ok (.iload_n 2, 1) := by decide +kernel
theorem dX3_allFaults_15 : decode cX3_allFaults 15 = .ok (.aload_n 0, 1) := by decide +kernel
theorem dX3_allFaults_16 : decode cX3_allFaults 16 = .ok (.iload_n 1, 1) := by decide +kernel
theorem dX3_allFaults_17 : decode cX3_allFaults 17 = .ok (.iload_n 3, 1) := by decide +kernel
theorem dX3_allFaults_18 : decode cX3_allFaults 18 = .ok (.invokevirtual 95, 3) := by decide +kernel
theorem dX3_allFaults_21 : decode cX3_allFaults 21 = .ok (.iadd, 1) := by decide +kernel
theorem dX3_allFaults_22 : decode cX3_allFaults 22 = .ok (.istore_n 2, 1) := by decide +kernel
theorem dX3_allFaults_23 : decode cX3_allFaults 23 = .ok (.iinc 3 1, 3) := by decide +kernel
theorem dX3_allFaults_26 : decode cX3_allFaults 26 = .ok (.goto (-22), 3) := by decide +kernel
theorem dX3_allFaults_29 : decode cX3_allFaults 29 = .ok (.iload_n 2, 1) := by decide +kernel
theorem dX3_allFaults_30 : decode cX3_allFaults 30 = .ok (.ireturn, 1) := by decide +kernel
theorem dX3_faults_0 : decode cX3_faults 0 = .ok (.aload_n 0, 1) := by decide +kernel
theorem dX3_faults_1 : decode cX3_faults 1 = .ok (.aload_n 0, 1) := by decide +kernel
theorem dX3_faults_2 : decode cX3_faults 2 = .ok (.iload_n 1, 1) := by decide +kernel
theorem dX3_faults_3 : decode cX3_faults 3 = .ok (.invokevirtual 48, 3) := by decide +kernel
theorem dX3_faults_6 : decode cX3_faults 6 = .ok (.ifCond .eq 7, 3) := by decide +kernel
theorem dX3_faults_9 : decode cX3_faults 9 = .ok (.iconst 0, 1) := by decide +kernel
theorem dX3_faults_10 : decode cX3_faults 10 = .ok (.goto 4, 3) := by decide +kernel
theorem dX3_faults_13 : decode cX3_faults 13 = .ok (.iconst 1, 1) := by decide +kernel
theorem dX3_faults_14 : decode cX3_faults 14 = .ok (.invokevirtual 58, 3) := by decide +kernel
theorem dX3_faults_17 : decode cX3_faults 17 = .ok (.ifCond .eq 7, 3) := by decide +kernel
theorem dX3_faults_20 : decode cX3_faults 20 = .ok (.iconst 0, 1) := by decide +kernel
theorem dX3_faults_21 : decode cX3_faults 21 = .ok (.goto 8, 3) := by decide +kernel
theorem dX3_faults_24 : decode cX3_faults 24 = .ok (.aload_n 0, 1) := by decide +kernel
theorem dX3_faults_25 : decode cX3_faults 25 = .ok (.iload_n 1, 1) := by decide +kernel
theorem dX3_faults_26 : decode cX3_faults 26 = .ok (.invokevirtual 98, 3) := by decide +kernel
theorem dX3_faults_29 : decode cX3_faults 29 = .ok (.ireturn, 1) := by decide +kernel
theorem dX3_leastFaults_0 : decode cX3_leastFaults 0 = .ok (.aload_n 0, 1) := by decide +kernel
theorem dX3_leastFaults_1 : decode cX3_leastFaults 1 = .ok (.iload_n 1, 1) := by decide +kernel
theorem dX3_leastFaults_2 : decode cX3_leastFaults 2 = .ok (.iload_n 2, 1) := by decide +kernel
theorem dX3_leastFaults_3 : decode cX3_leastFaults 3 = .ok (.invokevirtual 82, 3) := by decide +kernel
theorem dX3_leastFaults_6 : decode cX3_leastFaults 6 = .ok (.ifCond .eq 23, 3) := by decide +kernel
theorem dX3_leastFaults_9 : decode cX3_leastFaults 9 = .ok (.iload_n 2, 1) := by decide +kernel
theorem dX3_leastFaults_10 : decode cX3_leastFaults 10 = .ok (.ifCond .le 19, 3) := by decide +kernel
theorem dX3_leastFaults_13 : decode cX3_leastFaults 13 = .ok (.iload_n 2, 1) := by decide +kernel
theorem dX3_leastFaults_14 : decode cX3_leastFaults 14 = .ok (.aload_n 0, 1) := by decide +kernel
theorem dX3_leastFaults_15 : decode cX3_leastFaults 15 = .ok (.getfield 25, 3) := by decide +kernel
theorem dX3_leastFaults_18 : decode cX3_leastFaults 18 = .ok (.iload_n 1, 1) := by decide +kernel
theorem dX3_leastFaults_19 : decode cX3_leastFaults 19 = .ok (.iaload, 1) := by decide +kernel
theorem dX3_leastFaults_20 : decode cX3_leastFaults 20 = .ok (.iconst 1, 1) := by decide +kernel
theorem dX3_leastFaults_21 : decode cX3_leastFaults 21 = .ok (.isub, 1) := by decide +kernel
theorem dX3_leastFaults_22 : decode cX3_leastFaults 22 = .ok (.if_icmp .ge 7, 3) := by decide +kernel
theorem dX3_leastFaults_25 : decode cX3_leastFaults 25 = .ok (.iconst 1, 1) := by decide +kernel
theorem dX3_leastFaults_26 : decode cX3_leastFaults 26 = .ok (.goto 4, 3) := by decide +kernel
theorem dX3_leastFaults_29 : decode cX3_leastFaults 29 = .ok (.iconst 0, 1) := by decide +kernel
theorem dX3_leastFaults_30 : decode cX3_leastFaults 30 = .ok (.istore 4, 2) := by decide +kernel
theorem dX3_leastFaults_32 : decode cX3_leastFaults 32 = .ok (.aload_n 0, 1) := by decide +kernel
theorem dX3_leastFaults_33 : decode cX3_leastFaults 33 = .ok (.iload 4, 2) := by decide +kernel
theorem dX3_leastFaults_35 : decode cX3_leastFaults 35 = .ok (.ifCond .ne 7, 3) := by decide +kernel
theorem dX3_leastFaults_38 : decode cX3_leastFaults 38 = .ok (.iconst 1, 1) := by decide +kernel
theorem dX3_leastFaults_39 : decode cX3_leastFaults 39 = .ok (.goto 15, 3) := by decide +kernel
theorem dX3_leastFaults_42 : decode cX3_leastFaults 42 = .ok (.iload_n 3, 1) := by decide +kernel
theorem dX3_leastFaults_43 : decode cX3_leastFaults 43 = .ok (.invokestatic 52, 3) := by decide +kernel
theorem dX3_leastFaults_46 : decode cX3_leastFaults 46 = .ok (.ifCond .eq 7, 3) := by decide +kernel
theorem dX3_leastFaults_49 : decode cX3_leastFaults 49 = .ok (.iconst 0, 1) := by decide +kernel
theorem dX3_leastFaults_50 : decode cX3_leastFaults 50 = .ok (.goto 4, 3) := by decide +kernel
theorem dX3_leastFaults_53 : decode cX3_leastFaults 53 = .ok (.iconst 2, 1) := by decide +kernel
theorem dX3_leastFaults_54 : decode cX3_leastFaults 54 = .ok (.invokevirtual 58, 3) := by decide +kernel
theorem dX3_leastFaults_57 : decode cX3_leastFaults 57 = .ok (.ifCond .eq 5, 3) := by decide +kernel
theorem dX3_leastFaults_60 : decode cX3_leastFaults 60 = .ok (.iconst 0, 1) := by decide +kernel
theorem dX3_leastFaults_61 : decode cX3_leastFaults 61 = .ok (.ireturn, 1) := by decide +kernel
theorem dX3_leastFaults_62 : decode cX3_leastFaults 62 = .ok (.aload_n 0, 1) := by decide +kernel
theorem dX3_leastFaults_63 : decode cX3_leastFaults 63 = .ok (.iload_n 1, 1) := by decide +kernel
theorem dX3_leastFaults_64 : decode cX3_leastFaults 64 = .ok (.iload_n 2, 1) := by decide +kernel
theorem dX3_leastFaults_65 : decode cX3_leastFaults 65 = .ok (.iload_n 3, 1) := by decide +kernel
theorem dX3_leastFaults_66 : decode cX3_leastFaults 66 = .ok (.invokevirtual 78, 3) := by decide +kernel
theorem dX3_leastFaults_69 : decode cX3_leastFaults 69 = .ok (.istore 5, 2) := by decide +kernel
theorem dX3_leastFaults_71 : decode cX3_leastFaults 71 = .ok (.aload_n 0, 1) := by decide +kernel
theorem dX3_leastFaults_72 : decode cX3_leastFaults 72 = .ok (.iload_n 1, 1) := by decide +kernel
theorem dX3_leastFaults_73 : decode cX3_leastFaults 73 = .ok (.invokevirtual 98, 3) := by decide +kernel
theorem dX3_leastFaults_76 : decode cX3_leastFaults 76 = .ok (.istore 6, 2) := by decide +kernel
theorem dX3_leastFaults_78 : decode cX3_leastFaults 78 = .ok (.aload_n 0, 1) := by decide +kernel
theorem dX3_leastFaults_79 : decode cX3_leastFaults 79 = .ok (.iload_n 1, 1) := by decide +kernel
theorem dX3_leastFaults_80 : decode cX3_leastFaults 80 = .ok (.iload_n 2, 1) := by decide +kernel
theorem dX3_leastFaults_81 : decode cX3_leastFaults 81 = .ok (.iload_n 3, 1) := by decide +kernel
theorem dX3_leastFaults_82 : decode cX3_leastFaults 82 = .ok (.invokevirtual 88, 3) := by decide +kernel
theorem dX3_leastFaults_85 : decode cX3_leastFaults 85 = .ok (.istore 7, 2) := by decide +kernel
theorem dX3_leastFaults_87 : decode cX3_leastFaults 87 = .ok (.aload_n 0, 1) := by decide +kernel
theorem dX3_leastFaults_88 : decode cX3_leastFaults 88 = .ok (.iload_n 1, 1) := by decide +kernel
theorem dX3_leastFaults_89 : decode cX3_leastFaults 89 = .ok (.iload_n 2, 1) := by decide +kernel
theorem dX3_leastFaults_90 : decode cX3_leastFaults 90 = .ok (.iload_n 3, 1) := by decide +kernel
theorem dX3_leastFaults_91 : decode cX3_leastFaults 91 = .ok (.invokevirtual 85, 3) := by decide +kernel
theorem dX3_leastFaults_94 : decode cX3_leastFaults 94 = .ok (.istore 8, 2) := by decide +kernel
theorem dX3_leastFaults_96 : decode cX3_leastFaults 96 = .ok (.iload 8, 2) := by decide +kernel
theorem dX3_leastFaults_98 : decode cX3_leastFaults 98 = .ok (.iload 7, 2) := by decide +kernel
theorem dX3_leastFaults_100 : decode cX3_leastFaults 100 = .ok (.if_icmp .gt 49, 3) := by decide +kernel
theorem dX3_leastFaults_103 : decode cX3_leastFaults 103 = .ok (.aload_n 0, 1) := by decide +kernel
theorem dX3_leastFaults_104 : decode cX3_leastFaults 104 = .ok (.getfield 22, 3) := by decide +kernel
theorem dX3_leastFaults_107 : decode cX3_leastFaults 107 = .ok (.bipush 64, 2) := by decide +kernel
theorem dX3_leastFaults_109 : decode cX3_leastFaults 109 = .ok (.iload_n 1, 1) := by decide +kernel
theorem dX3_leastFaults_110 : decode cX3_leastFaults 110 = .ok (.imul, 1) := by decide +kernel
theorem dX3_leastFaults_111 : decode cX3_leastFaults 111 = .ok (.iconst 4, 1) := by decide +kernel
theorem dX3_leastFaults_112 : decode cX3_leastFaults 112 = .ok (.iload_n 2, 1) := by decide +kernel
theorem dX3_leastFaults_113 : decode cX3_leastFaults 113 = .ok (.imul, 1) := by decide +kernel
theorem dX3_leastFaults_114 : decode cX3_leastFaults 114 = .ok (.iadd, 1) := by decide +kernel
theorem dX3_leastFaults_115 : decode cX3_leastFaults 115 = .ok (.iload_n 3, 1) := by decide +kernel
theorem dX3_leastFaults_116 : decode cX3_leastFaults 116 = .ok (.iadd, 1) := by decide +kernel
theorem dX3_leastFaults_117 : decode cX3_leastFaults 117 = .ok (.iload 8, 2) := by decide +kernel
theorem dX3_leastFaults_119 : decode cX3_leastFaults 119 = .ok (.iastore, 1) := by decide +kernel
theorem dX3_leastFaults_120 : decode cX3_leastFaults 120 = .ok (.aload_n 0, 1) := by decide +kernel
theorem dX3_leastFaults_121 : decode cX3_leastFaults 121 = .ok (.iload_n 1, 1) := by decide +kernel
theorem dX3_leastFaults_122 : decode cX3_leastFaults 122 = .ok (.invokevirtual 98, 3) := by decide +kernel
theorem dX3_leastFaults_125 : decode cX3_leastFaults 125 = .ok (.istore 9, 2) := by decide +kernel
theorem dX3_leastFaults_127 : decode cX3_leastFaults 127 = .ok (.iload 9, 2) := by decide +kernel
theorem dX3_leastFaults_129 : decode cX3_leastFaults 129 = .ok (.iload 6, 2) := by decide +kernel
theorem dX3_leastFaults_131 : decode cX3_leastFaults 131 = .ok (.if_icmp .ge 8, 3) := by decide +kernel
theorem dX3_leastFaults_134 : decode cX3_leastFaults 134 = .ok (.iload 9, 2) := by decide +kernel
theorem dX3_leastFaults_136 : decode cX3_leastFaults 136 = .ok (.goto 5, 3) := by decide +kernel
theorem dX3_leastFaults_139 : decode cX3_leastFaults 139 = .ok (.iload 6, 2) := by decide +kernel
theorem dX3_leastFaults_141 : decode cX3_leastFaults 141 = .ok (.istore 6, 2) := by decide +kernel
theorem dX3_leastFaults_143 : decode cX3_leastFaults 143 = .ok (.iinc 8 1, 3) := by decide +kernel
theorem dX3_leastFaults_146 : decode cX3_leastFaults 146 = .ok (.goto (-50), 3) := by decide +kernel
theorem dX3_leastFaults_149 : decode cX3_leastFaults 149 = .ok (.aload_n 0, 1) := by decide +kernel
theorem dX3_leastFaults_150 : decode cX3_leastFaults 150 = .ok (.getfield 22, 3) := by decide +kernel
theorem dX3_leastFaults_153 : decode cX3_leastFaults 153 = .ok (.bipush 64, 2) := by decide +kernel
theorem dX3_leastFaults_155 : decode cX3_leastFaults 155 = .ok (.iload_n 1, 1) := by decide +kernel
theorem dX3_leastFaults_156 : decode cX3_leastFaults 156 = .ok (.imul, 1) := by decide +kernel
theorem dX3_leastFaults_157 : decode cX3_leastFaults 157 = .ok (.iconst 4, 1) := by decide +kernel
theorem dX3_leastFaults_158 : decode cX3_leastFaults 158 = .ok (.iload_n 2, 1) := by decide +kernel
theorem dX3_leastFaults_159 : decode cX3_leastFaults 159 = .ok (.imul, 1) := by decide +kernel
theorem dX3_leastFaults_160 : decode cX3_leastFaults 160 = .ok (.iadd, 1) := by decide +kernel
theorem dX3_leastFaults_161 : decode cX3_leastFaults 161 = .ok (.iload_n 3, 1) := by decide +kernel
theorem dX3_leastFaults_162 : decode cX3_leastFaults 162 = .ok (.iadd, 1) := by decide +kernel
theorem dX3_leastFaults_163 : decode cX3_leastFaults 163 = .ok (.iload 5, 2) := by decide +kernel
theorem dX3_leastFaults_165 : decode cX3_leastFaults 165 = .ok (.iastore, 1) := by decide +kernel
theorem dX3_leastFaults_166 : decode cX3_leastFaults 166 = .ok (.iload 6, 2) := by decide +kernel
theorem dX3_leastFaults_168 : decode cX3_leastFaults 168 = .ok (.ireturn, 1) := by decide +kernel
theorem dX3_fits_0 : decode cX3_fits 0 = .ok (.iconst 1, 1) := by decide +kernel
theorem dX3_fits_1 : decode cX3_fits 1 = .ok (.istore 4, 2) := by decide +kernel
theorem dX3_fits_3 : decode cX3_fits 3 = .ok (.iconst 0, 1) := by decide +kernel
theorem dX3_fits_4 : decode cX3_fits 4 = .ok (.istore 5, 2) := by decide +kernel
theorem dX3_fits_6 : decode cX3_fits 6 = .ok (.iload 5, 2) := by decide +kernel
theorem dX3_fits_8 : decode cX3_fits 8 = .ok (.iconst 4, 1) := by decide +kernel
theorem dX3_fits_9 : decode cX3_fits 9 = .ok (.if_icmp .ge 80, 3) := by decide +kernel
theorem dX3_fits_12 : decode cX3_fits 12 = .ok (.aload_n 0, 1) := by decide +kernel
theorem dX3_fits_13 : decode cX3_fits 13 = .ok (.iload 5, 2) := by decide +kernel
theorem dX3_fits_15 : decode cX3_fits 15 = .ok (.iload_n 2, 1) := by decide +kernel
theorem dX3_fits_16 : decode cX3_fits 16 = .ok (.invokevirtual 71, 3) := by decide +kernel
theorem dX3_fits_19 : decode cX3_fits 19 = .ok (.istore 6, 2) := by decide +kernel
theorem dX3_fits_21 : decode cX3_fits 21 = .ok (.aload_n 0, 1) := by decide +kernel
theorem dX3_fits_22 : decode cX3_fits 22 = .ok (.iload 5, 2) := by decide +kernel
theorem dX3_fits_24 : decode cX3_fits 24 = .ok (.iload_n 2, 1) := by decide +kernel
theorem dX3_fits_25 : decode cX3_fits 25 = .ok (.invokevirtual 75, 3) := by decide +kernel
theorem dX3_fits_28 : decode cX3_fits 28 = .ok (.istore 7, 2) := by decide +kernel
theorem dX3_fits_30 : decode cX3_fits 30 = .ok (.iconst 0, 1) := by decide +kernel
theorem dX3_fits_31 : decode cX3_fits 31 = .ok (.istore 8, 2) := by decide +kernel
theorem dX3_fits_33 : decode cX3_fits 33 = .ok (.iload 8, 2) := by decide +kernel
theorem dX3_fits_35 : decode cX3_fits 35 = .ok (.aload_n 0, 1) := by decide +kernel
theorem dX3_fits_36 : decode cX3_fits 36 = .ok (.getfield 25, 3) := by decide +kernel
theorem dX3_fits_39 : decode cX3_fits 39 = .ok (.iload_n 1, 1) := by decide +kernel
theorem dX3_fits_40 : decode cX3_fits 40 = .ok (.iaload, 1) := by decide +kernel
theorem dX3_fits_41 : decode cX3_fits 41 = .ok (.if_icmp .ge 42, 3) := by decide +kernel
theorem dX3_fits_44 : decode cX3_fits 44 = .ok (.iload 4, 2) := by decide +kernel
theorem dX3_fits_46 : decode cX3_fits 46 = .ok (.ifCond .eq 28, 3) := by decide +kernel
theorem dX3_fits_49 : decode cX3_fits 49 = .ok (.aload_n 0, 1) := by decide +kernel
theorem dX3_fits_50 : decode cX3_fits 50 = .ok (.iload_n 1, 1) := by decide +kernel
theorem dX3_fits_51 : decode cX3_fits 51 = .ok (.iload 8, 2) := by decide +kernel
theorem dX3_fits_53 : decode cX3_fits 53 = .ok (.iload 5, 2) := by decide +kernel
theorem dX3_fits_55 : decode cX3_fits 55 = .ok (.invokevirtual 78, 3) := by decide +kernel
theorem dX3_fits_58 : decode cX3_fits 58 = .ok (.iload_n 3, 1) := by decide +kernel
theorem dX3_fits_59 : decode cX3_fits 59 = .ok (.iadd, 1) := by decide +kernel
theorem dX3_fits_60 : decode cX3_fits 60 = .ok (.iload 6, 2) := by decide +kernel
theorem dX3_fits_62 : decode cX3_fits 62 = .ok (.iload 7, 2) := by decide +kernel
theorem dX3_fits_64 : decode cX3_fits 64 = .ok (.invokestatic 38, 3) := by decide +kernel
theorem dX3_fits_67 : decode cX3_fits 67 = .ok (.ifCond .eq 7, 3) := by decide +kernel
theorem dX3_fits_70 : decode cX3_fits 70 = .ok (.iconst 1, 1) := by decide +kernel
theorem dX3_fits_71 : decode cX3_fits 71 = .ok (.goto 4, 3) := by decide +kernel
theorem dX3_fits_74 : decode cX3_fits 74 = .ok (.iconst 0, 1) := by decide +kernel
theorem dX3_fits_75 : decode cX3_fits 75 = .ok (.istore 4, 2) := by decide +kernel
theorem dX3_fits_77 : decode cX3_fits 77 = .ok (.iinc 8 1, 3) := by decide +kernel
theorem dX3_fits_80 : decode cX3_fits 80 = .ok (.goto (-47), 3) := by decide +kernel
theorem dX3_fits_83 : decode cX3_fits 83 = .ok (.iinc 5 1, 3) := by decide +kernel
theorem dX3_fits_86 : decode cX3_fits 86 = .ok (.goto (-80), 3) := by decide +kernel
theorem dX3_fits_89 : decode cX3_fits 89 = .ok (.iload 4, 2) := by decide +kernel
theorem dX3_fits_91 : decode cX3_fits 91 = .ok (.ireturn, 1) := by decide +kernel
theorem dX3_shiftOf_0 : decode cX3_shiftOf 0 = .ok (.iconst 0, 1) := by decide +kernel
theorem dX3_shiftOf_1 : decode cX3_shiftOf 1 = .ok (.istore_n 3, 1) := by decide +kernel
theorem dX3_shiftOf_2 : decode cX3_shiftOf 2 = .ok (.iload_n 3, 1) := by decide +kernel
theorem dX3_shiftOf_3 : decode cX3_shiftOf 3 = .ok (.bipush 12, 2) := by decide +kernel
theorem dX3_shiftOf_5 : decode cX3_shiftOf 5 = .ok (.if_icmp .gt 35, 3) := by decide +kernel
theorem dX3_shiftOf_8 : decode cX3_shiftOf 8 = .ok (.aload_n 0, 1) := by decide +kernel
theorem dX3_shiftOf_9 : decode cX3_shiftOf 9 = .ok (.iload_n 1, 1) := by decide +kernel
theorem dX3_shiftOf_10 : decode cX3_shiftOf 10 = .ok (.iload_n 2, 1) := by decide +kernel
theorem dX3_shiftOf_11 : decode cX3_shiftOf 11 = .ok (.iload_n 3, 1) := by decide +kernel
theorem dX3_shiftOf_12 : decode cX3_shiftOf 12 = .ok (.ineg, 1) := by decide +kernel
theorem dX3_shiftOf_13 : decode cX3_shiftOf 13 = .ok (.invokevirtual 102, 3) := by decide +kernel
theorem dX3_shiftOf_16 : decode cX3_shiftOf 16 = .ok (.ifCond .eq 6, 3) := by decide +kernel
theorem dX3_shiftOf_19 : decode cX3_shiftOf 19 = .ok (.iload_n 3, 1) := by decide +kernel
theorem dX3_shiftOf_20 : decode cX3_shiftOf 20 = .ok (.ineg, 1) := by decide +kernel
theorem dX3_shiftOf_21 : decode cX3_shiftOf 21 = .ok (.ireturn, 1) := by decide +kernel
theorem dX3_shiftOf_22 : decode cX3_shiftOf 22 = .ok (.aload_n 0, 1) := by decide +kernel
theorem dX3_shiftOf_23 : decode cX3_shiftOf 23 = .ok (.iload_n 1, 1) := by decide +kernel
theorem dX3_shiftOf_24 : decode cX3_shiftOf 24 = .ok (.iload_n 2, 1) := by decide +kernel
theorem dX3_shiftOf_25 : decode cX3_shiftOf 25 = .ok (.iload_n 3, 1) := by decide +kernel
theorem dX3_shiftOf_26 : decode cX3_shiftOf 26 = .ok (.invokevirtual 102, 3) := by decide +kernel
theorem dX3_shiftOf_29 : decode cX3_shiftOf 29 = .ok (.ifCond .eq 5, 3) := by decide +kernel
theorem dX3_shiftOf_32 : decode cX3_shiftOf 32 = .ok (.iload_n 3, 1) := by decide +kernel
theorem dX3_shiftOf_33 : decode cX3_shiftOf 33 = .ok (.ireturn, 1) := by decide +kernel
theorem dX3_shiftOf_34 : decode cX3_shiftOf 34 = .ok (.iinc 3 1, 3) := by decide +kernel
theorem dX3_shiftOf_37 : decode cX3_shiftOf 37 = .ok (.goto (-35), 3) := by decide +kernel
theorem dX3_shiftOf_40 : decode cX3_shiftOf 40 = .ok (.bipush 99, 2) := by decide +kernel
theorem dX3_shiftOf_42 : decode cX3_shiftOf 42 = .ok (.ireturn, 1) := by decide +kernel
theorem dX3_shift_0 : decode cX3_shift 0 = .ok (.aload_n 0, 1) := by decide +kernel
theorem dX3_shift_1 : decode cX3_shift 1 = .ok (.iload_n 1, 1) := by decide +kernel
theorem dX3_shift_2 : decode cX3_shift 2 = .ok (.invokevirtual 48, 3) := by decide +kernel
theorem dX3_shift_5 : decode cX3_shift 5 = .ok (.ifCond .eq 14, 3) := by decide +kernel
theorem dX3_shift_8 : decode cX3_shift 8 = .ok (.iload_n 2, 1) := by decide +kernel
theorem dX3_shift_9 : decode cX3_shift 9 = .ok (.invokestatic 64, 3) := by decide +kernel
theorem dX3_shift_12 : decode cX3_shift 12 = .ok (.ifCond .eq 7, 3) := by decide +kernel
theorem dX3_shift_15 : decode cX3_shift 15 = .ok (.iconst 1, 1) := by decide +kernel
theorem dX3_shift_16 : decode cX3_shift 16 = .ok (.goto 4, 3) := by decide +kernel
theorem dX3_shift_19 : decode cX3_shift 19 = .ok (.iconst 0, 1) := by decide +kernel
theorem dX3_shift_20 : decode cX3_shift 20 = .ok (.istore_n 3, 1) := by decide +kernel
theorem dX3_shift_21 : decode cX3_shift 21 = .ok (.iload_n 3, 1) := by decide +kernel
theorem dX3_shift_22 : decode cX3_shift 22 = .ok (.ifCond .eq 12, 3) := by decide +kernel
theorem dX3_shift_25 : decode cX3_shift 25 = .ok (.aload_n 0, 1) := by decide +kernel
theorem dX3_shift_26 : decode cX3_shift 26 = .ok (.iload_n 1, 1) := by decide +kernel
theorem dX3_shift_27 : decode cX3_shift 27 = .ok (.iload_n 2, 1) := by decide +kernel
theorem dX3_shift_28 : decode cX3_shift 28 = .ok (.invokevirtual 105, 3) := by decide +kernel
theorem dX3_shift_31 : decode cX3_shift 31 = .ok (.goto 4, 3) := by decide +kernel
theorem dX3_shift_34 : decode cX3_shift 34 = .ok (.iconst 0, 1) := by decide +kernel
theorem dX3_shift_35 : decode cX3_shift 35 = .ok (.istore 4, 2) := by decide +kernel
theorem dX3_shift_37 : decode cX3_shift 37 = .ok (.aload_n 0, 1) := by decide +kernel
theorem dX3_shift_38 : decode cX3_shift 38 = .ok (.aload_n 0, 1) := by decide +kernel
theorem dX3_shift_39 : decode cX3_shift 39 = .ok (.iload_n 1, 1) := by decide +kernel
theorem dX3_shift_40 : decode cX3_shift 40 = .ok (.invokevirtual 48, 3) := by decide +kernel
theorem dX3_shift_43 : decode cX3_shift 43 = .ok (.ifCond .ne 7, 3) := by decide +kernel
theorem dX3_shift_46 : decode cX3_shift 46 = .ok (.iconst 1, 1) := by decide +kernel
theorem dX3_shift_47 : decode cX3_shift 47 = .ok (.goto 23, 3) := by decide +kernel
theorem dX3_shift_50 : decode cX3_shift 50 = .ok (.iload_n 3, 1) := by decide +kernel
theorem dX3_shift_51 : decode cX3_shift 51 = .ok (.ifCond .ne 7, 3) := by decide +kernel
theorem dX3_shift_54 : decode cX3_shift 54 = .ok (.iconst 2, 1) := by decide +kernel
theorem dX3_shift_55 : decode cX3_shift 55 = .ok (.goto 15, 3) := by decide +kernel
theorem dX3_shift_58 : decode cX3_shift 58 = .ok (.iload 4, 2) := by decide +kernel
theorem dX3_shift_60 : decode cX3_shift 60 = .ok (.bipush 99, 2) := by decide +kernel
theorem dX3_shift_62 : decode cX3_shift 62 = .ok (.if_icmp .ne 7, 3) := by decide +kernel
theorem dX3_shift_65 : decode cX3_shift 65 = .ok (.iconst 3, 1) := by decide +kernel
theorem dX3_shift_66 : decode cX3_shift 66 = .ok (.goto 4, 3) := by decide +kernel
theorem dX3_shift_69 : decode cX3_shift 69 = .ok (.iconst 0, 1) := by decide +kernel
theorem dX3_shift_70 : decode cX3_shift 70 = .ok (.invokevirtual 58, 3) := by decide +kernel
theorem dX3_shift_73 : decode cX3_shift 73 = .ok (.ifCond .eq 7, 3) := by decide +kernel
theorem dX3_shift_76 : decode cX3_shift 76 = .ok (.iconst 0, 1) := by decide +kernel
theorem dX3_shift_77 : decode cX3_shift 77 = .ok (.goto 5, 3) := by decide +kernel
theorem dX3_shift_80 : decode cX3_shift 80 = .ok (.iload 4, 2) := by decide +kernel
theorem dX3_shift_82 : decode cX3_shift 82 = .ok (.ireturn, 1) := by decide +kernel
theorem dX3_dates_0 : decode cX3_dates 0 = .ok (.aload_n 0, 1) := by decide +kernel
theorem dX3_dates_1 : decode cX3_dates 1 = .ok (.aload_n 0, 1) := by decide +kernel
theorem dX3_dates_2 : decode cX3_dates 2 = .ok (.iload_n 1, 1) := by decide +kernel
theorem dX3_dates_3 : decode cX3_dates 3 = .ok (.invokevirtual 48, 3) := by decide +kernel
theorem dX3_dates_6 : decode cX3_dates 6 = .ok (.ifCond .eq 7, 3) := by decide +kernel
theorem dX3_dates_9 : decode cX3_dates 9 = .ok (.iconst 0, 1) := by decide +kernel
theorem dX3_dates_10 : decode cX3_dates 10 = .ok (.goto 4, 3) := by decide +kernel
theorem dX3_dates_13 : decode cX3_dates 13 = .ok (.iconst 1, 1) := by decide +kernel
theorem dX3_dates_14 : decode cX3_dates 14 = .ok (.invokevirtual 58, 3) := by decide +kernel
theorem dX3_dates_17 : decode cX3_dates 17 = .ok (.ifCond .eq 5, 3) := by decide +kernel
theorem dX3_dates_20 : decode cX3_dates 20 = .ok (.iconst 0, 1) := by decide +kernel
theorem dX3_dates_21 : decode cX3_dates 21 = .ok (.ireturn, 1) := by decide +kernel
theorem dX3_dates_22 : decode cX3_dates 22 = .ok (.iconst 0, 1) := by decide +kernel
theorem dX3_dates_23 : decode cX3_dates 23 = .ok (.istore_n 2, 1) := by decide +kernel
theorem dX3_dates_24 : decode cX3_dates 24 = .ok (.iconst 0, 1) := by decide +kernel
theorem dX3_dates_25 : decode cX3_dates 25 = .ok (.istore_n 3, 1) := by decide +kernel
theorem dX3_dates_26 : decode cX3_dates 26 = .ok (.iload_n 3, 1) := by decide +kernel
theorem dX3_dates_27 : decode cX3_dates 27 = .ok (.bipush 31, 2) := by decide +kernel
theorem dX3_dates_29 : decode cX3_dates 29 = .ok (.if_icmp .ge 28, 3) := by decide +kernel
theorem dX3_dates_32 : decode cX3_dates 32 = .ok (.iload_n 2, 1) := by decide +kernel
theorem dX3_dates_33 : decode cX3_dates 33 = .ok (.aload_n 0, 1) := by decide +kernel
theorem dX3_dates_34 : decode cX3_dates 34 = .ok (.iload_n 1, 1) := by decide +kernel
theorem dX3_dates_35 : decode cX3_dates 35 = .ok (.iload_n 3, 1) := by decide +kernel
theorem dX3_dates_36 : decode cX3_dates 36 = .ok (.invokevirtual 105, 3) := by decide +kernel
theorem dX3_dates_39 : decode cX3_dates 39 = .ok (.bipush 99, 2) := by decide +kernel
theorem dX3_dates_41 : decode cX3_dates 41 = .ok (.if_icmp .ne 7, 3) := by decide +kernel
theorem dX3_dates_44 : decode cX3_dates 44 = .ok (.iconst 0, 1) := by decide +kernel
theorem dX3_dates_45 : decode cX3_dates 45 = .ok (.goto 4, 3) := by decide +kernel
theorem dX3_dates_48 : decode cX3_dates 48 = .ok (.iconst 1, 1) := by decide +kernel
theorem dX3_dates_49 : decode cX3_dates 49 = .ok (.iadd, 1) := by decide +kernel
theorem dX3_dates_50 : decode cX3_dates 50 = .ok (.istore_n 2, 1) := by decide +kernel
theorem dX3_dates_51 : decode cX3_dates 51 = .ok (.iinc 3 1, 3) := by decide +kernel
theorem dX3_dates_54 : decode cX3_dates 54 = .ok (.goto (-28), 3) := by decide +kernel
theorem dX3_dates_57 : decode cX3_dates 57 = .ok (.iload_n 2, 1) := by decide +kernel
theorem dX3_dates_58 : decode cX3_dates 58 = .ok (.ireturn, 1) := by decide +kernel
theorem dX3_missed_0 : decode cX3_missed 0 = .ok (.aload_n 0, 1) := by decide +kernel
theorem dX3_missed_1 : decode cX3_missed 1 = .ok (.iload_n 1, 1) := by decide +kernel
theorem dX3_missed_2 : decode cX3_missed 2 = .ok (.invokestatic 64, 3) := by decide +kernel
theorem dX3_missed_5 : decode cX3_missed 5 = .ok (.ifCond .eq 7, 3) := by decide +kernel
theorem dX3_missed_8 : decode cX3_missed 8 = .ok (.iconst 0, 1) := by decide +kernel
theorem dX3_missed_9 : decode cX3_missed 9 = .ok (.goto 4, 3) := by decide +kernel
theorem dX3_missed_12 : decode cX3_missed 12 = .ok (.iconst 1, 1) := by decide +kernel
theorem dX3_missed_13 : decode cX3_missed 13 = .ok (.invokevirtual 58, 3) := by decide +kernel
theorem dX3_missed_16 : decode cX3_missed 16 = .ok (.ifCond .eq 5, 3) := by decide +kernel
theorem dX3_missed_19 : decode cX3_missed 19 = .ok (.iconst 0, 1) := by decide +kernel
theorem dX3_missed_20 : decode cX3_missed 20 = .ok (.ireturn, 1) := by decide +kernel
theorem dX3_missed_21 : decode cX3_missed 21 = .ok (.iconst 0, 1) := by decide +kernel
theorem dX3_missed_22 : decode cX3_missed 22 = .ok (.istore_n 2, 1) := by decide +kernel
theorem dX3_missed_23 : decode cX3_missed 23 = .ok (.iconst 0, 1) := by decide +kernel
theorem dX3_missed_24 : decode cX3_missed 24 = .ok (.istore_n 3, 1) := by decide +kernel
theorem dX3_missed_25 : decode cX3_missed 25 = .ok (.iload_n 3, 1) := by decide +kernel
theorem dX3_missed_26 : decode cX3_missed 26 = .ok (.aload_n 0, 1) := by decide +kernel
theorem dX3_missed_27 : decode cX3_missed 27 = .ok (.getfield 42, 3) := by decide +kernel
theorem dX3_missed_30 : decode cX3_missed 30 = .ok (.if_icmp .ge 42, 3) := by decide +kernel
theorem dX3_missed_33 : decode cX3_missed 33 = .ok (.iload_n 2, 1) := by decide +kernel
theorem dX3_missed_34 : decode cX3_missed 34 = .ok (.aload_n 0, 1) := by decide +kernel
theorem dX3_missed_35 : decode cX3_missed 35 = .ok (.iload_n 3, 1) := by decide +kernel
theorem dX3_missed_36 : decode cX3_missed 36 = .ok (.iload_n 1, 1) := by decide +kernel
theorem dX3_missed_37 : decode cX3_missed 37 = .ok (.invokevirtual 67, 3) := by decide +kernel
theorem dX3_missed_40 : decode cX3_missed 40 = .ok (.ifCond .ne 23, 3) := by decide +kernel
theorem dX3_missed_43 : decode cX3_missed 43 = .ok (.aload_n 0, 1) := by decide +kernel
theorem dX3_missed_44 : decode cX3_missed 44 = .ok (.aload_n 0, 1) := by decide +kernel
theorem dX3_missed_45 : decode cX3_missed 45 = .ok (.getfield 7, 3) := by decide +kernel
theorem dX3_missed_48 : decode cX3_missed 48 = .ok (.iload_n 3, 1) := by decide +kernel
theorem dX3_missed_49 : decode cX3_missed 49 = .ok (.iaload, 1) := by decide +kernel
theorem dX3_missed_50 : decode cX3_missed 50 = .ok (.iload_n 1, 1) := by decide +kernel
theorem dX3_missed_51 : decode cX3_missed 51 = .ok (.invokevirtual 71, 3) := by decide +kernel
theorem dX3_missed_54 : decode cX3_missed 54 = .ok (.bipush 61, 2) := by decide +kernel
theorem dX3_missed_56 : decode cX3_missed 56 = .ok (.if_icmp .ne 7, 3) := by decide +kernel
theorem dX3_missed_59 : decode cX3_missed 59 = .ok (.iconst 1, 1) := by decide +kernel
theorem dX3_missed_60 : decode cX3_missed 60 = .ok (.goto 4, 3) := by decide +kernel
theorem dX3_missed_63 : decode cX3_missed 63 = .ok (.iconst 0, 1) := by decide +kernel
theorem dX3_missed_64 : decode cX3_missed 64 = .ok (.iadd, 1) := by decide +kernel
theorem dX3_missed_65 : decode cX3_missed 65 = .ok (.istore_n 2, 1) := by decide +kernel
theorem dX3_missed_66 : decode cX3_missed 66 = .ok (.iinc 3 1, 3) := by decide +kernel
theorem dX3_missed_69 : decode cX3_missed 69 = .ok (.goto (-44), 3) := by decide +kernel
theorem dX3_missed_72 : decode cX3_missed 72 = .ok (.iload_n 2, 1) := by decide +kernel
theorem dX3_missed_73 : decode cX3_missed 73 = .ok (.ireturn, 1) := by decide +kernel
theorem dX3_lengthOf_0 : decode cX3_lengthOf 0 = .ok (.iconst 0, 1) := by decide +kernel
theorem dX3_lengthOf_1 : decode cX3_lengthOf 1 = .ok (.istore_n 2, 1) := by decide +kernel
theorem dX3_lengthOf_2 : decode cX3_lengthOf 2 = .ok (.iconst 0, 1) := by decide +kernel
theorem dX3_lengthOf_3 : decode cX3_lengthOf 3 = .ok (.istore_n 3, 1) := by decide +kernel
theorem dX3_lengthOf_4 : decode cX3_lengthOf 4 = .ok (.iload_n 3, 1) := by decide +kernel
theorem dX3_lengthOf_5 : decode cX3_lengthOf 5 = .ok (.aload_n 0, 1) := by decide +kernel
theorem dX3_lengthOf_6 : decode cX3_lengthOf 6 = .ok (.getfield 45, 3) := by decide +kernel
theorem dX3_lengthOf_9 : decode cX3_lengthOf 9 = .ok (.if_icmp .ge 24, 3) := by decide +kernel
theorem dX3_lengthOf_12 : decode cX3_lengthOf 12 = .ok (.iload_n 2, 1) := by decide +kernel
theorem dX3_lengthOf_13 : decode cX3_lengthOf 13 = .ok (.iload_n 1, 1) := by decide +kernel
theorem dX3_lengthOf_14 : decode cX3_lengthOf 14 = .ok (.iload_n 3, 1) := by decide +kernel
theorem dX3_lengthOf_15 : decode cX3_lengthOf 15 = .ok (.ishr, 1) := by decide +kernel
theorem dX3_lengthOf_16 : decode cX3_lengthOf 16 = .ok (.iconst 1, 1) := by decide +kernel
theorem dX3_lengthOf_17 : decode cX3_lengthOf 17 = .ok (.iand, 1) := by decide +kernel
theorem dX3_lengthOf_18 : decode cX3_lengthOf 18 = .ok (.aload_n 0, 1) := by decide +kernel
theorem dX3_lengthOf_19 : decode cX3_lengthOf 19 = .ok (.getfield 28, 3) := by decide +kernel
theorem dX3_lengthOf_22 : decode cX3_lengthOf 22 = .ok (.iload_n 3, 1) := by decide +kernel
theorem dX3_lengthOf_23 : decode cX3_lengthOf 23 = .ok (.iaload, 1) := by decide +kernel
theorem dX3_lengthOf_24 : decode cX3_lengthOf 24 = .ok (.imul, 1) := by decide +kernel
theorem dX3_lengthOf_25 : decode cX3_lengthOf 25 = .ok (.iadd, 1) := by decide +kernel
theorem dX3_lengthOf_26 : decode cX3_lengthOf 26 = .ok (.istore_n 2, 1) := by decide +kernel
theorem dX3_lengthOf_27 : decode cX3_lengthOf 27 = .ok (.iinc 3 1, 3) := by decide +kernel
theorem dX3_lengthOf_30 : decode cX3_lengthOf 30 = .ok (.goto (-26), 3) := by decide +kernel
theorem dX3_lengthOf_33 : decode cX3_lengthOf 33 = .ok (.iload_n 2, 1) := by decide +kernel
theorem dX3_lengthOf_34 : decode cX3_lengthOf 34 = .ok (.ireturn, 1) := by decide +kernel
theorem dX3_bits_0 : decode cX3_bits 0 = .ok (.iconst 0, 1) := by decide +kernel
theorem dX3_bits_1 : decode cX3_bits 1 = .ok (.istore_n 1, 1) := by decide +kernel
theorem dX3_bits_2 : decode cX3_bits 2 = .ok (.iload_n 0, 1) := by decide +kernel
theorem dX3_bits_3 : decode cX3_bits 3 = .ok (.istore_n 2, 1) := by decide +kernel
theorem dX3_bits_4 : decode cX3_bits 4 = .ok (.iload_n 2, 1) := by decide +kernel
theorem dX3_bits_5 : decode cX3_bits 5 = .ok (.ifCond .eq 15, 3) := by decide +kernel
theorem dX3_bits_8 : decode cX3_bits 8 = .ok (.iinc 1 1, 3) := by decide +kernel
theorem dX3_bits_11 : decode cX3_bits 11 = .ok (.iload_n 2, 1) := by decide +kernel
theorem dX3_bits_12 : decode cX3_bits 12 = .ok (.iload_n 2, 1) := by decide +kernel
theorem dX3_bits_13 : decode cX3_bits 13 = .ok (.iconst 1, 1) := by decide +kernel
theorem dX3_bits_14 : decode cX3_bits 14 = .ok (.isub, 1) := by decide +kernel
theorem dX3_bits_15 : decode cX3_bits 15 = .ok (.iand, 1) := by decide +kernel
theorem dX3_bits_16 : decode cX3_bits 16 = .ok (.istore_n 2, 1) := by decide +kernel
theorem dX3_bits_17 : decode cX3_bits 17 = .ok (.goto (-13), 3) := by decide +kernel
theorem dX3_bits_20 : decode cX3_bits 20 = .ok (.iload_n 1, 1) := by decide +kernel
theorem dX3_bits_21 : decode cX3_bits 21 = .ok (.ireturn, 1) := by decide +kernel
theorem dX3_isBetter_0 : decode cX3_isBetter 0 = .ok (.aload_n 0, 1) := by decide +kernel
theorem dX3_isBetter_1 : decode cX3_isBetter 1 = .ok (.iload_n 1, 1) := by decide +kernel
theorem dX3_isBetter_2 : decode cX3_isBetter 2 = .ok (.invokevirtual 108, 3) := by decide +kernel
theorem dX3_isBetter_5 : decode cX3_isBetter 5 = .ok (.aload_n 0, 1) := by decide +kernel
theorem dX3_isBetter_6 : decode cX3_isBetter 6 = .ok (.iload_n 2, 1) := by decide +kernel
theorem dX3_isBetter_7 : decode cX3_isBetter 7 = .ok (.invokevirtual 108, 3) := by decide +kernel
theorem dX3_isBetter_10 : decode cX3_isBetter 10 = .ok (.isub, 1) := by decide +kernel
theorem dX3_isBetter_11 : decode cX3_isBetter 11 = .ok (.istore_n 3, 1) := by decide +kernel
theorem dX3_isBetter_12 : decode cX3_isBetter 12 = .ok (.iload_n 2, 1) := by decide +kernel
theorem dX3_isBetter_13 : decode cX3_isBetter 13 = .ok (.invokestatic 111, 3) := by decide +kernel
theorem dX3_isBetter_16 : decode cX3_isBetter 16 = .ok (.iload_n 1, 1) := by decide +kernel
theorem dX3_isBetter_17 : decode cX3_isBetter 17 = .ok (.invokestatic 111, 3) := by decide +kernel
theorem dX3_isBetter_20 : decode cX3_isBetter 20 = .ok (.isub, 1) := by decide +kernel
theorem dX3_isBetter_21 : decode cX3_isBetter 21 = .ok (.istore 4, 2) := by decide +kernel
theorem dX3_isBetter_23 : decode cX3_isBetter 23 = .ok (.iload_n 1, 1) := by decide +kernel
theorem dX3_isBetter_24 : decode cX3_isBetter 24 = .ok (.iload_n 2, 1) := by decide +kernel
theorem dX3_isBetter_25 : decode cX3_isBetter 25 = .ok (.ixor, 1) := by decide +kernel
theorem dX3_isBetter_26 : decode cX3_isBetter 26 = .ok (.istore 5, 2) := by decide +kernel
theorem dX3_isBetter_28 : decode cX3_isBetter 28 = .ok (.iload 5, 2) := by decide +kernel
theorem dX3_isBetter_30 : decode cX3_isBetter 30 = .ok (.iload 5, 2) := by decide +kernel
theorem dX3_isBetter_32 : decode cX3_isBetter 32 = .ok (.ineg, 1) := by decide +kernel
theorem dX3_isBetter_33 : decode cX3_isBetter 33 = .ok (.iand, 1) := by decide +kernel
theorem dX3_isBetter_34 : decode cX3_isBetter 34 = .ok (.iload_n 1, 1) := by decide +kernel
theorem dX3_isBetter_35 : decode cX3_isBetter 35 = .ok (.iand, 1) := by decide +kernel
theorem dX3_isBetter_36 : decode cX3_isBetter 36 = .ok (.ifCond .eq 7, 3) := by decide +kernel
theorem dX3_isBetter_39 : decode cX3_isBetter 39 = .ok (.iconst 1, 1) := by decide +kernel
theorem dX3_isBetter_40 : decode cX3_isBetter 40 = .ok (.goto 4, 3) := by decide +kernel
theorem dX3_isBetter_43 : decode cX3_isBetter 43 = .ok (.iconst 0, 1) := by decide +kernel
theorem dX3_isBetter_44 : decode cX3_isBetter 44 = .ok (.istore 6, 2) := by decide +kernel
theorem dX3_isBetter_46 : decode cX3_isBetter 46 = .ok (.iload_n 3, 1) := by decide +kernel
theorem dX3_isBetter_47 : decode cX3_isBetter 47 = .ok (.ifCond .gt 22, 3) := by decide +kernel
theorem dX3_isBetter_50 : decode cX3_isBetter 50 = .ok (.iload_n 3, 1) := by decide +kernel
theorem dX3_isBetter_51 : decode cX3_isBetter 51 = .ok (.ifCond .ne 22, 3) := by decide +kernel
theorem dX3_isBetter_54 : decode cX3_isBetter 54 = .ok (.iload 4, 2) := by decide +kernel
theorem dX3_isBetter_56 : decode cX3_isBetter 56 = .ok (.ifCond .gt 13, 3) := by decide +kernel
theorem dX3_isBetter_59 : decode cX3_isBetter 59 = .ok (.iload 4, 2) := by decide +kernel
theorem dX3_isBetter_61 : decode cX3_isBetter 61 = .ok (.ifCond .ne 12, 3) := by decide +kernel
theorem dX3_isBetter_64 : decode cX3_isBetter 64 = .ok (.iload 6, 2) := by decide +kernel
theorem dX3_isBetter_66 : decode cX3_isBetter 66 = .ok (.ifCond .eq 7, 3) := by decide +kernel
theorem dX3_isBetter_69 : decode cX3_isBetter 69 = .ok (.iconst 1, 1) := by decide +kernel
theorem dX3_isBetter_70 : decode cX3_isBetter 70 = .ok (.goto 4, 3) := by decide +kernel
theorem dX3_isBetter_73 : decode cX3_isBetter 73 = .ok (.iconst 0, 1) := by decide +kernel
theorem dX3_isBetter_74 : decode cX3_isBetter 74 = .ok (.ireturn, 1) := by decide +kernel
theorem dX3_planned_0 : decode cX3_planned 0 = .ok (.iconst 0, 1) := by decide +kernel
theorem dX3_planned_1 : decode cX3_planned 1 = .ok (.istore_n 3, 1) := by decide +kernel
theorem dX3_planned_2 : decode cX3_planned 2 = .ok (.iconst 0, 1) := by decide +kernel
theorem dX3_planned_3 : decode cX3_planned 3 = .ok (.istore 4, 2) := by decide +kernel
theorem dX3_planned_5 : decode cX3_planned 5 = .ok (.iload 4, 2) := by decide +kernel
theorem dX3_planned_7 : decode cX3_planned 7 = .ok (.aload_n 0, 1) := by decide +kernel
theorem dX3_planned_8 : decode cX3_planned 8 = .ok (.getfield 45, 3) := by decide +kernel
theorem dX3_planned_11 : decode cX3_planned 11 = .ok (.if_icmp .ge 32, 3) := by decide +kernel
theorem dX3_planned_14 : decode cX3_planned 14 = .ok (.iload_n 3, 1) := by decide +kernel
theorem dX3_planned_15 : decode cX3_planned 15 = .ok (.aload_n 0, 1) := by decide +kernel
theorem dX3_planned_16 : decode cX3_planned 16 = .ok (.iload 4, 2) := by decide +kernel
theorem dX3_planned_18 : decode cX3_planned 18 = .ok (.iload_n 1, 1) := by decide +kernel
theorem dX3_planned_19 : decode cX3_planned 19 = .ok (.invokevirtual 105, 3) := by decide +kernel
theorem dX3_planned_22 : decode cX3_planned 22 = .ok (.bipush 99, 2) := by decide +kernel
theorem dX3_planned_24 : decode cX3_planned 24 = .ok (.if_icmp .ne 7, 3) := by decide +kernel
theorem dX3_planned_27 : decode cX3_planned 27 = .ok (.iconst 0, 1) := by decide +kernel
theorem dX3_planned_28 : decode cX3_planned 28 = .ok (.goto 7, 3) := by decide +kernel
theorem dX3_planned_31 : decode cX3_planned 31 = .ok (.iconst 1, 1) := by decide +kernel
theorem dX3_planned_32 : decode cX3_planned 32 = .ok (.iload 4, 2) := by decide +kernel
theorem dX3_planned_34 : decode cX3_planned 34 = .ok (.ishl, 1) := by decide +kernel
theorem dX3_planned_35 : decode cX3_planned 35 = .ok (.ior, 1) := by decide +kernel
theorem dX3_planned_36 : decode cX3_planned 36 = .ok (.istore_n 3, 1) := by decide +kernel
theorem dX3_planned_37 : decode cX3_planned 37 = .ok (.iinc 4 1, 3) := by decide +kernel
theorem dX3_planned_40 : decode cX3_planned 40 = .ok (.goto (-35), 3) := by decide +kernel
theorem dX3_planned_43 : decode cX3_planned 43 = .ok (.iconst 0, 1) := by decide +kernel
theorem dX3_planned_44 : decode cX3_planned 44 = .ok (.istore 4, 2) := by decide +kernel
theorem dX3_planned_46 : decode cX3_planned 46 = .ok (.iconst 1, 1) := by decide +kernel
theorem dX3_planned_47 : decode cX3_planned 47 = .ok (.istore 5, 2) := by decide +kernel
theorem dX3_planned_49 : decode cX3_planned 49 = .ok (.iload 5, 2) := by decide +kernel
theorem dX3_planned_51 : decode cX3_planned 51 = .ok (.iconst 1, 1) := by decide +kernel
theorem dX3_planned_52 : decode cX3_planned 52 = .ok (.aload_n 0, 1) := by decide +kernel
theorem dX3_planned_53 : decode cX3_planned 53 = .ok (.getfield 45, 3) := by decide +kernel
theorem dX3_planned_56 : decode cX3_planned 56 = .ok (.ishl, 1) := by decide +kernel
theorem dX3_planned_57 : decode cX3_planned 57 = .ok (.if_icmp .ge 60, 3) := by decide +kernel
theorem dX3_planned_60 : decode cX3_planned 60 = .ok (.iload 5, 2) := by decide +kernel
theorem dX3_planned_62 : decode cX3_planned 62 = .ok (.iload_n 3, 1) := by decide +kernel
theorem dX3_planned_63 : decode cX3_planned 63 = .ok (.iconst (-1), 1) := by decide +kernel
theorem dX3_planned_64 : decode cX3_planned 64 = .ok (.ixor, 1) := by decide +kernel
theorem dX3_planned_65 : decode cX3_planned 65 = .ok (.iand, 1) := by decide +kernel
theorem dX3_planned_66 : decode cX3_planned 66 = .ok (.ifCond .ne 17, 3) := by decide +kernel
theorem dX3_planned_69 : decode cX3_planned 69 = .ok (.aload_n 0, 1) := by decide +kernel
theorem dX3_planned_70 : decode cX3_planned 70 = .ok (.iload 5, 2) := by decide +kernel
theorem dX3_planned_72 : decode cX3_planned 72 = .ok (.invokevirtual 108, 3) := by decide +kernel
theorem dX3_planned_75 : decode cX3_planned 75 = .ok (.iload_n 2, 1) := by decide +kernel
theorem dX3_planned_76 : decode cX3_planned 76 = .ok (.if_icmp .gt 7, 3) := by decide +kernel
theorem dX3_planned_79 : decode cX3_planned 79 = .ok (.iconst 1, 1) := by decide +kernel
theorem dX3_planned_80 : decode cX3_planned 80 = .ok (.goto 4, 3) := by decide +kernel
theorem dX3_planned_83 : decode cX3_planned 83 = .ok (.iconst 0, 1) := by decide +kernel
theorem dX3_planned_84 : decode cX3_planned 84 = .ok (.istore 6, 2) := by decide +kernel
theorem dX3_planned_86 : decode cX3_planned 86 = .ok (.iload 6, 2) := by decide +kernel
theorem dX3_planned_88 : decode cX3_planned 88 = .ok (.ifCond .eq 19, 3) := by decide +kernel
theorem dX3_planned_91 : decode cX3_planned 91 = .ok (.aload_n 0, 1) := by decide +kernel
theorem dX3_planned_92 : decode cX3_planned 92 = .ok (.iload 5, 2) := by decide +kernel
theorem dX3_planned_94 : decode cX3_planned 94 = .ok (.iload 4, 2) := by decide +kernel
theorem dX3_planned_96 : decode cX3_planned 96 = .ok (.invokevirtual 114, 3) := by decide +kernel
theorem dX3_planned_99 : decode cX3_planned 99 = .ok (.ifCond .eq 8, 3) := by decide +kernel
theorem dX3_planned_102 : decode cX3_planned 102 = .ok (.iload 5, 2) := by decide +kernel
theorem dX3_planned_104 : decode cX3_planned 104 = .ok (.goto 5, 3) := by decide +kernel
theorem dX3_planned_107 : decode cX3_planned 107 = .ok (.iload 4, 2) := by decide +kernel
theorem dX3_planned_109 : decode cX3_planned 109 = .ok (.istore 4, 2) := by decide +kernel
theorem dX3_planned_111 : decode cX3_planned 111 = .ok (.iinc 5 1, 3) := by decide +kernel
theorem dX3_planned_114 : decode cX3_planned 114 = .ok (.goto (-65), 3) := by decide +kernel
theorem dX3_planned_117 : decode cX3_planned 117 = .ok (.iload 4, 2) := by decide +kernel
theorem dX3_planned_119 : decode cX3_planned 119 = .ok (.ireturn, 1) := by decide +kernel
theorem dX3_noDate_0 : decode cX3_noDate 0 = .ok (.aload_n 0, 1) := by decide +kernel
theorem dX3_noDate_1 : decode cX3_noDate 1 = .ok (.iload_n 1, 1) := by decide +kernel
theorem dX3_noDate_2 : decode cX3_noDate 2 = .ok (.invokestatic 64, 3) := by decide +kernel
theorem dX3_noDate_5 : decode cX3_noDate 5 = .ok (.ifCond .eq 18, 3) := by decide +kernel
theorem dX3_noDate_8 : decode cX3_noDate 8 = .ok (.iload_n 2, 1) := by decide +kernel
theorem dX3_noDate_9 : decode cX3_noDate 9 = .ok (.iconst 0, 1) := by decide +kernel
theorem dX3_noDate_10 : decode cX3_noDate 10 = .ok (.sipush 20000, 3) := by decide +kernel
theorem dX3_noDate_13 : decode cX3_noDate 13 = .ok (.invokestatic 38, 3) := by decide +kernel
theorem dX3_noDate_16 : decode cX3_noDate 16 = .ok (.ifCond .eq 7, 3) := by decide +kernel
theorem dX3_noDate_19 : decode cX3_noDate 19 = .ok (.iconst 0, 1) := by decide +kernel
theorem dX3_noDate_20 : decode cX3_noDate 20 = .ok (.goto 4, 3) := by decide +kernel
theorem dX3_noDate_23 : decode cX3_noDate 23 = .ok (.iconst 1, 1) := by decide +kernel
theorem dX3_noDate_24 : decode cX3_noDate 24 = .ok (.invokevirtual 58, 3) := by decide +kernel
theorem dX3_noDate_27 : decode cX3_noDate 27 = .ok (.ireturn, 1) := by decide +kernel
theorem dX3_programme_0 : decode cX3_programme 0 = .ok (.aload_n 0, 1) := by decide +kernel
theorem dX3_programme_1 : decode cX3_programme 1 = .ok (.iload_n 1, 1) := by decide +kernel
theorem dX3_programme_2 : decode cX3_programme 2 = .ok (.iload_n 2, 1) := by decide +kernel
theorem dX3_programme_3 : decode cX3_programme 3 = .ok (.invokevirtual 117, 3) := by decide +kernel
theorem dX3_programme_6 : decode cX3_programme 6 = .ok (.ifCond .eq 7, 3) := by decide +kernel
theorem dX3_programme_9 : decode cX3_programme 9 = .ok (.iconst 0, 1) := by decide +kernel
theorem dX3_programme_10 : decode cX3_programme 10 = .ok (.goto 9, 3) := by decide +kernel
theorem dX3_programme_13 : decode cX3_programme 13 = .ok (.aload_n 0, 1) := by decide +kernel
theorem dX3_programme_14 : decode cX3_programme 14 = .ok (.iload_n 1, 1) := by decide +kernel
theorem dX3_programme_15 : decode cX3_programme 15 = .ok (.iload_n 2, 1) := by decide +kernel
theorem dX3_programme_16 : decode cX3_programme 16 = .ok (.invokevirtual 120, 3) := by decide +kernel
theorem dX3_programme_19 : decode cX3_programme 19 = .ok (.ireturn, 1) := by decide +kernel
theorem dX3_duration_0 : decode cX3_duration 0 = .ok (.aload_n 0, 1) := by decide +kernel
theorem dX3_duration_1 : decode cX3_duration 1 = .ok (.iload_n 1, 1) := by decide +kernel
theorem dX3_duration_2 : decode cX3_duration 2 = .ok (.iload_n 2, 1) := by decide +kernel
theorem dX3_duration_3 : decode cX3_duration 3 = .ok (.invokevirtual 117, 3) := by decide +kernel
theorem dX3_duration_6 : decode cX3_duration 6 = .ok (.ifCond .eq 7, 3) := by decide +kernel
theorem dX3_duration_9 : decode cX3_duration 9 = .ok (.iconst 0, 1) := by decide +kernel
theorem dX3_duration_10 : decode cX3_duration 10 = .ok (.goto 13, 3) := by decide +kernel
theorem dX3_duration_13 : decode cX3_duration 13 = .ok (.aload_n 0, 1) := by decide +kernel
theorem dX3_duration_14 : decode cX3_duration 14 = .ok (.aload_n 0, 1) := by decide +kernel
theorem dX3_duration_15 : decode cX3_duration 15 = .ok (.iload_n 1, 1) := by decide +kernel
theorem dX3_duration_16 : decode cX3_duration 16 = .ok (.iload_n 2, 1) := by decide +kernel
theorem dX3_duration_17 : decode cX3_duration 17 = .ok (.invokevirtual 120, 3) := by decide +kernel
theorem dX3_duration_20 : decode cX3_duration 20 = .ok (.invokevirtual 108, 3) := by decide +kernel
theorem dX3_duration_23 : decode cX3_duration 23 = .ok (.ireturn, 1) := by decide +kernel
theorem dX3_weaknessOf_0 : decode cX3_weaknessOf 0 = .ok (.bipush 10, 2) := by decide +kernel
theorem dX3_weaknessOf_2 : decode cX3_weaknessOf 2 = .ok (.iconst 5, 1) := by decide +kernel
theorem dX3_weaknessOf_3 : decode cX3_weaknessOf 3 = .ok (.aload_n 0, 1) := by decide +kernel
theorem dX3_weaknessOf_4 : decode cX3_weaknessOf 4 = .ok (.iload_n 1, 1) := by decide +kernel
theorem dX3_weaknessOf_5 : decode cX3_weaknessOf 5 = .ok (.iload_n 2, 1) := by decide +kernel
theorem dX3_weaknessOf_6 : decode cX3_weaknessOf 6 = .ok (.invokevirtual 95, 3) := by decide +kernel
theorem dX3_weaknessOf_9 : decode cX3_weaknessOf 9 = .ok (.imul, 1) := by decide +kernel
theorem dX3_weaknessOf_10 : decode cX3_weaknessOf 10 = .ok (.iadd, 1) := by decide +kernel
theorem dX3_weaknessOf_11 : decode cX3_weaknessOf 11 = .ok (.aload_n 0, 1) := by decide +kernel
theorem dX3_weaknessOf_12 : decode cX3_weaknessOf 12 = .ok (.getfield 31, 3) := by decide +kernel
theorem dX3_weaknessOf_15 : decode cX3_weaknessOf 15 = .ok (.bipush 16, 2) := by decide +kernel
theorem dX3_weaknessOf_17 : decode cX3_weaknessOf 17 = .ok (.iload_n 1, 1) := by decide +kernel
theorem dX3_weaknessOf_18 : decode cX3_weaknessOf 18 = .ok (.imul, 1) := by decide +kernel
theorem dX3_weaknessOf_19 : decode cX3_weaknessOf 19 = .ok (.iload_n 2, 1) := by decide +kernel
theorem dX3_weaknessOf_20 : decode cX3_weaknessOf 20 = .ok (.iadd, 1) := by decide +kernel
theorem dX3_weaknessOf_21 : decode cX3_weaknessOf 21 = .ok (.iaload, 1) := by decide +kernel
theorem dX3_weaknessOf_22 : decode cX3_weaknessOf 22 = .ok (.isub, 1) := by decide +kernel
theorem dX3_weaknessOf_23 : decode cX3_weaknessOf 23 = .ok (.istore_n 3, 1) := by decide +kernel
theorem dX3_weaknessOf_24 : decode cX3_weaknessOf 24 = .ok (.iload_n 3, 1) := by decide +kernel
theorem dX3_weaknessOf_25 : decode cX3_weaknessOf 25 = .ok (.ifCond .le 7, 3) := by decide +kernel
theorem dX3_weaknessOf_28 : decode cX3_weaknessOf 28 = .ok (.iload_n 3, 1) := by decide +kernel
theorem dX3_weaknessOf_29 : decode cX3_weaknessOf 29 = .ok (.goto 4, 3) := by decide +kernel
theorem dX3_weaknessOf_32 : decode cX3_weaknessOf 32 = .ok (.iconst 0, 1) := by decide +kernel
theorem dX3_weaknessOf_33 : decode cX3_weaknessOf 33 = .ok (.ireturn, 1) := by decide +kernel
theorem dX3_weakestOf_0 : decode cX3_weakestOf 0 = .ok (.iconst 0, 1) := by decide +kernel
theorem dX3_weakestOf_1 : decode cX3_weakestOf 1 = .ok (.istore_n 2, 1) := by decide +kernel
theorem dX3_weakestOf_2 : decode cX3_weakestOf 2 = .ok (.iconst 1, 1) := by decide +kernel
theorem dX3_weakestOf_3 : decode cX3_weakestOf 3 = .ok (.istore_n 3, 1) := by decide +kernel
theorem dX3_weakestOf_4 : decode cX3_weakestOf 4 = .ok (.iload_n 3, 1) := by decide +kernel
theorem dX3_weakestOf_5 : decode cX3_weakestOf 5 = .ok (.aload_n 0, 1) := by decide +kernel
theorem dX3_weakestOf_6 : decode cX3_weakestOf 6 = .ok (.getfield 25, 3) := by decide +kernel
theorem dX3_weakestOf_9 : decode cX3_weakestOf 9 = .ok (.iload_n 1, 1) := by decide +kernel
theorem dX3_weakestOf_10 : decode cX3_weakestOf 10 = .ok (.iaload, 1) := by decide +kernel
theorem dX3_weakestOf_11 : decode cX3_weakestOf 11 = .ok (.if_icmp .ge 30, 3) := by decide +kernel
theorem dX3_weakestOf_14 : decode cX3_weakestOf 14 = .ok (.aload_n 0, 1) := by decide +kernel
theorem dX3_weakestOf_15 : decode cX3_weakestOf 15 = .ok (.iload_n 1, 1) := by decide +kernel
theorem dX3_weakestOf_16 : decode cX3_weakestOf 16 = .ok (.iload_n 3, 1) := by decide +kernel
theorem dX3_weakestOf_17 : decode cX3_weakestOf 17 = .ok (.invokevirtual 123, 3) := by decide +kernel
theorem dX3_weakestOf_20 : decode cX3_weakestOf 20 = .ok (.aload_n 0, 1) := by decide +kernel
theorem dX3_weakestOf_21 : decode cX3_weakestOf 21 = .ok (.iload_n 1, 1) := by decide +kernel
theorem dX3_weakestOf_22 : decode cX3_weakestOf 22 = .ok (.iload_n 2, 1) := by decide +kernel
theorem dX3_weakestOf_23 : decode cX3_weakestOf 23 = .ok (.invokevirtual 123, 3) := by decide +kernel
theorem dX3_weakestOf_26 : decode cX3_weakestOf 26 = .ok (.if_icmp .le 7, 3) := by decide +kernel
theorem dX3_weakestOf_29 : decode cX3_weakestOf 29 = .ok (.iload_n 3, 1) := by decide +kernel
theorem dX3_weakestOf_30 : decode cX3_weakestOf 30 = .ok (.goto 4, 3) := by decide +kernel
theorem dX3_weakestOf_33 : decode cX3_weakestOf 33 = .ok (.iload_n 2, 1) := by decide +kernel
theorem dX3_weakestOf_34 : decode cX3_weakestOf 34 = .ok (.istore_n 2, 1) := by decide +kernel
theorem dX3_weakestOf_35 : decode cX3_weakestOf 35 = .ok (.iinc 3 1, 3) := by decide +kernel
theorem dX3_weakestOf_38 : decode cX3_weakestOf 38 = .ok (.goto (-34), 3) := by decide +kernel
theorem dX3_weakestOf_41 : decode cX3_weakestOf 41 = .ok (.iload_n 2, 1) := by decide +kernel
theorem dX3_weakestOf_42 : decode cX3_weakestOf 42 = .ok (.ireturn, 1) := by decide +kernel
theorem dX3_rehearse_0 : decode cX3_rehearse 0 = .ok (.aload_n 0, 1) := by decide +kernel
theorem dX3_rehearse_1 : decode cX3_rehearse 1 = .ok (.aload_n 0, 1) := by decide +kernel
theorem dX3_rehearse_2 : decode cX3_rehearse 2 = .ok (.iload_n 1, 1) := by decide +kernel
theorem dX3_rehearse_3 : decode cX3_rehearse 3 = .ok (.invokevirtual 48, 3) := by decide +kernel
theorem dX3_rehearse_6 : decode cX3_rehearse 6 = .ok (.ifCond .ne 7, 3) := by decide +kernel
theorem dX3_rehearse_9 : decode cX3_rehearse 9 = .ok (.iconst 1, 1) := by decide +kernel
theorem dX3_rehearse_10 : decode cX3_rehearse 10 = .ok (.goto 18, 3) := by decide +kernel
theorem dX3_rehearse_13 : decode cX3_rehearse 13 = .ok (.iload_n 2, 1) := by decide +kernel
theorem dX3_rehearse_14 : decode cX3_rehearse 14 = .ok (.iconst 1, 1) := by decide +kernel
theorem dX3_rehearse_15 : decode cX3_rehearse 15 = .ok (.bipush 30, 2) := by decide +kernel
theorem dX3_rehearse_17 : decode cX3_rehearse 17 = .ok (.invokestatic 38, 3) := by decide +kernel
theorem dX3_rehearse_20 : decode cX3_rehearse 20 = .ok (.ifCond .eq 7, 3) := by decide +kernel
theorem dX3_rehearse_23 : decode cX3_rehearse 23 = .ok (.iconst 0, 1) := by decide +kernel
theorem dX3_rehearse_24 : decode cX3_rehearse 24 = .ok (.goto 4, 3) := by decide +kernel
theorem dX3_rehearse_27 : decode cX3_rehearse 27 = .ok (.iconst 2, 1) := by decide +kernel
theorem dX3_rehearse_28 : decode cX3_rehearse 28 = .ok (.invokevirtual 58, 3) := by decide +kernel
theorem dX3_rehearse_31 : decode cX3_rehearse 31 = .ok (.ifCond .eq 5, 3) := by decide +kernel
theorem dX3_rehearse_34 : decode cX3_rehearse 34 = .ok (.iconst 0, 1) := by decide +kernel
theorem dX3_rehearse_35 : decode cX3_rehearse 35 = .ok (.ireturn, 1) := by decide +kernel
theorem dX3_rehearse_36 : decode cX3_rehearse 36 = .ok (.iconst 0, 1) := by decide +kernel
theorem dX3_rehearse_37 : decode cX3_rehearse 37 = .ok (.istore_n 3, 1) := by decide +kernel
theorem dX3_rehearse_38 : decode cX3_rehearse 38 = .ok (.iload_n 3, 1) := by decide +kernel
theorem dX3_rehearse_39 : decode cX3_rehearse 39 = .ok (.iload_n 2, 1) := by decide +kernel
theorem dX3_rehearse_40 : decode cX3_rehearse 40 = .ok (.if_icmp .ge 28, 3) := by decide +kernel
theorem dX3_rehearse_43 : decode cX3_rehearse 43 = .ok (.aload_n 0, 1) := by decide +kernel
theorem dX3_rehearse_44 : decode cX3_rehearse 44 = .ok (.getfield 31, 3) := by decide +kernel
theorem dX3_rehearse_47 : decode cX3_rehearse 47 = .ok (.bipush 16, 2) := by decide +kernel
theorem dX3_rehearse_49 : decode cX3_rehearse 49 = .ok (.iload_n 1, 1) := by decide +kernel
theorem dX3_rehearse_50 : decode cX3_rehearse 50 = .ok (.imul, 1) := by decide +kernel
theorem dX3_rehearse_51 : decode cX3_rehearse 51 = .ok (.aload_n 0, 1) := by decide +kernel
theorem dX3_rehearse_52 : decode cX3_rehearse 52 = .ok (.iload_n 1, 1) := by decide +kernel
theorem dX3_rehearse_53 : decode cX3_rehearse 53 = .ok (.invokevirtual 126, 3) := by decide +kernel
theorem dX3_rehearse_56 : decode cX3_rehearse 56 = .ok (.iadd, 1) := by decide +kernel
theorem dX3_rehearse_57 : decode cX3_rehearse 57 = .ok (.dup2, 1) := by decide +kernel
theorem dX3_rehearse_58 : decode cX3_rehearse 58 = .ok (.iaload, 1) := by decide +kernel
theorem dX3_rehearse_59 : decode cX3_rehearse 59 = .ok (.iconst 4, 1) := by decide +kernel
theorem dX3_rehearse_60 : decode cX3_rehearse 60 = .ok (.iadd, 1) := by decide +kernel
theorem dX3_rehearse_61 : decode cX3_rehearse 61 = .ok (.iastore, 1) := by decide +kernel
theorem dX3_rehearse_62 : decode cX3_rehearse 62 = .ok (.iinc 3 1, 3) := by decide +kernel
theorem dX3_rehearse_65 : decode cX3_rehearse 65 = .ok (.goto (-27), 3) := by decide +kernel
theorem dX3_rehearse_68 : decode cX3_rehearse 68 = .ok (.iconst 0, 1) := by decide +kernel
theorem dX3_rehearse_69 : decode cX3_rehearse 69 = .ok (.istore_n 3, 1) := by decide +kernel
theorem dX3_rehearse_70 : decode cX3_rehearse 70 = .ok (.iconst 0, 1) := by decide +kernel
theorem dX3_rehearse_71 : decode cX3_rehearse 71 = .ok (.istore 4, 2) := by decide +kernel
theorem dX3_rehearse_73 : decode cX3_rehearse 73 = .ok (.iload 4, 2) := by decide +kernel
theorem dX3_rehearse_75 : decode cX3_rehearse 75 = .ok (.aload_n 0, 1) := by decide +kernel
theorem dX3_rehearse_76 : decode cX3_rehearse 76 = .ok (.getfield 25, 3) := by decide +kernel
theorem dX3_rehearse_79 : decode cX3_rehearse 79 = .ok (.iload_n 1, 1) := by decide +kernel
theorem dX3_rehearse_80 : decode cX3_rehearse 80 = .ok (.iaload, 1) := by decide +kernel
theorem dX3_rehearse_81 : decode cX3_rehearse 81 = .ok (.if_icmp .ge 19, 3) := by decide +kernel
theorem dX3_rehearse_84 : decode cX3_rehearse 84 = .ok (.iload_n 3, 1) := by decide +kernel
theorem dX3_rehearse_85 : decode cX3_rehearse 85 = .ok (.aload_n 0, 1) := by decide +kernel
theorem dX3_rehearse_86 : decode cX3_rehearse 86 = .ok (.iload_n 1, 1) := by decide +kernel
theorem dX3_rehearse_87 : decode cX3_rehearse 87 = .ok (.iload 4, 2) := by decide +kernel
theorem dX3_rehearse_89 : decode cX3_rehearse 89 = .ok (.invokevirtual 123, 3) := by decide +kernel
theorem dX3_rehearse_92 : decode cX3_rehearse 92 = .ok (.iadd, 1) := by decide +kernel
theorem dX3_rehearse_93 : decode cX3_rehearse 93 = .ok (.istore_n 3, 1) := by decide +kernel
theorem dX3_rehearse_94 : decode cX3_rehearse 94 = .ok (.iinc 4 1, 3) := by decide +kernel
theorem dX3_rehearse_97 : decode cX3_rehearse 97 = .ok (.goto (-24), 3) := by decide +kernel
theorem dX3_rehearse_100 : decode cX3_rehearse 100 = .ok (.iload_n 3, 1) := by decide +kernel
theorem dX3_rehearse_101 : decode cX3_rehearse 101 = .ok (.ireturn, 1) := by decide +kernel
theorem dX3_weakness_0 : decode cX3_weakness 0 = .ok (.aload_n 0, 1) := by decide +kernel
theorem dX3_weakness_1 : decode cX3_weakness 1 = .ok (.aload_n 0, 1) := by decide +kernel
theorem dX3_weakness_2 : decode cX3_weakness 2 = .ok (.iload_n 1, 1) := by decide +kernel
theorem dX3_weakness_3 : decode cX3_weakness 3 = .ok (.iload_n 2, 1) := by decide +kernel
theorem dX3_weakness_4 : decode cX3_weakness 4 = .ok (.invokevirtual 82, 3) := by decide +kernel
theorem dX3_weakness_7 : decode cX3_weakness 7 = .ok (.ifCond .eq 7, 3) := by decide +kernel
theorem dX3_weakness_10 : decode cX3_weakness 10 = .ok (.iconst 0, 1) := by decide +kernel
theorem dX3_weakness_11 : decode cX3_weakness 11 = .ok (.goto 4, 3) := by decide +kernel
theorem dX3_weakness_14 : decode cX3_weakness 14 = .ok (.iconst 1, 1) := by decide +kernel
theorem dX3_weakness_15 : decode cX3_weakness 15 = .ok (.invokevirtual 58, 3) := by decide +kernel
theorem dX3_weakness_18 : decode cX3_weakness 18 = .ok (.ifCond .eq 7, 3) := by decide +kernel
theorem dX3_weakness_21 : decode cX3_weakness 21 = .ok (.iconst 0, 1) := by decide +kernel
theorem dX3_weakness_22 : decode cX3_weakness 22 = .ok (.goto 9, 3) := by decide +kernel
theorem dX3_weakness_25 : decode cX3_weakness 25 = .ok (.aload_n 0, 1) := by decide +kernel
theorem dX3_weakness_26 : decode cX3_weakness 26 = .ok (.iload_n 1, 1) := by decide +kernel
theorem dX3_weakness_27 : decode cX3_weakness 27 = .ok (.iload_n 2, 1) := by decide +kernel
theorem dX3_weakness_28 : decode cX3_weakness 28 = .ok (.invokevirtual 123, 3) := by decide +kernel
theorem dX3_weakness_31 : decode cX3_weakness 31 = .ok (.ireturn, 1) := by decide +kernel
theorem dX3_weakest_0 : decode cX3_weakest 0 = .ok (.aload_n 0, 1) := by decide +kernel
theorem dX3_weakest_1 : decode cX3_weakest 1 = .ok (.aload_n 0, 1) := by decide +kernel
theorem dX3_weakest_2 : decode cX3_weakest 2 = .ok (.iload_n 1, 1) := by decide +kernel
theorem dX3_weakest_3 : decode cX3_weakest 3 = .ok (.invokevirtual 48, 3) := by decide +kernel
theorem dX3_weakest_6 : decode cX3_weakest 6 = .ok (.ifCond .eq 7, 3) := by decide +kernel
theorem dX3_weakest_9 : decode cX3_weakest 9 = .ok (.iconst 0, 1) := by decide +kernel
theorem dX3_weakest_10 : decode cX3_weakest 10 = .ok (.goto 4, 3) := by decide +kernel
theorem dX3_weakest_13 : decode cX3_weakest 13 = .ok (.iconst 1, 1) := by decide +kernel
theorem dX3_weakest_14 : decode cX3_weakest 14 = .ok (.invokevirtual 58, 3) := by decide +kernel
theorem dX3_weakest_17 : decode cX3_weakest 17 = .ok (.ifCond .eq 7, 3) := by decide +kernel
theorem dX3_weakest_20 : decode cX3_weakest 20 = .ok (.iconst 0, 1) := by decide +kernel
theorem dX3_weakest_21 : decode cX3_weakest 21 = .ok (.goto 8, 3) := by decide +kernel
theorem dX3_weakest_24 : decode cX3_weakest 24 = .ok (.aload_n 0, 1) := by decide +kernel
theorem dX3_weakest_25 : decode cX3_weakest 25 = .ok (.iload_n 1, 1) := by decide +kernel
theorem dX3_weakest_26 : decode cX3_weakest 26 = .ok (.invokevirtual 126, 3) := by decide +kernel
theorem dX3_weakest_29 : decode cX3_weakest 29 = .ok (.ireturn, 1) := by decide +kernel
theorem dJ6_bitCount_0f7a4_0 : decode cJ6_bitCount_0f7a4 0 = .ok (.iload_n 0, 1) := by decide +kernel
theorem dJ6_bitCount_0f7a4_1 : decode cJ6_bitCount_0f7a4 1 = .ok (.iload_n 0, 1) := by decide +kernel
theorem dJ6_bitCount_0f7a4_2 : decode cJ6_bitCount_0f7a4 2 = .ok (.iconst 1, 1) := by decide +kernel
theorem dJ6_bitCount_0f7a4_3 : decode cJ6_bitCount_0f7a4 3 = .ok (.iushr, 1) := by decide +kernel
theorem dJ6_bitCount_0f7a4_4 : decode cJ6_bitCount_0f7a4 4 = .ok (.ldc_w 265, 3) := by decide +kernel
theorem dJ6_bitCount_0f7a4_7 : decode cJ6_bitCount_0f7a4 7 = .ok (.iand, 1) := by decide +kernel
theorem dJ6_bitCount_0f7a4_8 : decode cJ6_bitCount_0f7a4 8 = .ok (.isub, 1) := by decide +kernel
theorem dJ6_bitCount_0f7a4_9 : decode cJ6_bitCount_0f7a4 9 = .ok (.istore_n 0, 1) := by decide +kernel
theorem dJ6_bitCount_0f7a4_10 : decode cJ6_bitCount_0f7a4 10 = .ok (.iload_n 0, 1) := by decide +kernel
theorem dJ6_bitCount_0f7a4_11 : decode cJ6_bitCount_0f7a4 11 = .ok (.ldc_w 266, 3) := by decide +kernel
theorem dJ6_bitCount_0f7a4_14 : decode cJ6_bitCount_0f7a4 14 = .ok (.iand, 1) := by decide +kernel
theorem dJ6_bitCount_0f7a4_15 : decode cJ6_bitCount_0f7a4 15 = .ok (.iload_n 0, 1) := by decide +kernel
theorem dJ6_bitCount_0f7a4_16 : decode cJ6_bitCount_0f7a4 16 = .ok (.iconst 2, 1) := by decide +kernel
theorem dJ6_bitCount_0f7a4_17 : decode cJ6_bitCount_0f7a4 17 = .ok (.iushr, 1) := by decide +kernel
theorem dJ6_bitCount_0f7a4_18 : decode cJ6_bitCount_0f7a4 18 = .ok (.ldc_w 266, 3) := by decide +kernel
theorem dJ6_bitCount_0f7a4_21 : decode cJ6_bitCount_0f7a4 21 = .ok (.iand, 1) := by decide +kernel
theorem dJ6_bitCount_0f7a4_22 : decode cJ6_bitCount_0f7a4 22 = .ok (.iadd, 1) := by decide +kernel
theorem dJ6_bitCount_0f7a4_23 : decode cJ6_bitCount_0f7a4 23 = .ok (.istore_n 0, 1) := by decide +kernel
theorem dJ6_bitCount_0f7a4_24 : decode cJ6_bitCount_0f7a4 24 = .ok (.iload_n 0, 1) := by decide +kernel
theorem dJ6_bitCount_0f7a4_25 : decode cJ6_bitCount_0f7a4 25 = .ok (.iload_n 0, 1) := by decide +kernel
theorem dJ6_bitCount_0f7a4_26 : decode cJ6_bitCount_0f7a4 26 = .ok (.iconst 4, 1) := by decide +kernel
theorem dJ6_bitCount_0f7a4_27 : decode cJ6_bitCount_0f7a4 27 = .ok (.iushr, 1) := by decide +kernel
theorem dJ6_bitCount_0f7a4_28 : decode cJ6_bitCount_0f7a4 28 = .ok (.iadd, 1) := by decide +kernel
theorem dJ6_bitCount_0f7a4_29 : decode cJ6_bitCount_0f7a4 29 = .ok (.ldc_w 267, 3) := by decide +kernel
theorem dJ6_bitCount_0f7a4_32 : decode cJ6_bitCount_0f7a4 32 = .ok (.iand, 1) := by decide +kernel
theorem dJ6_bitCount_0f7a4_33 : decode cJ6_bitCount_0f7a4 33 = .ok (.istore_n 0, 1) := by decide +kernel
theorem dJ6_bitCount_0f7a4_34 : decode cJ6_bitCount_0f7a4 34 = .ok (.iload_n 0, 1) := by decide +kernel
theorem dJ6_bitCount_0f7a4_35 : decode cJ6_bitCount_0f7a4 35 = .ok (.iload_n 0, 1) := by decide +kernel
theorem dJ6_bitCount_0f7a4_36 : decode cJ6_bitCount_0f7a4 36 = .ok (.bipush 8, 2) := by decide +kernel
theorem dJ6_bitCount_0f7a4_38 : decode cJ6_bitCount_0f7a4 38 = .ok (.iushr, 1) := by decide +kernel
theorem dJ6_bitCount_0f7a4_39 : decode cJ6_bitCount_0f7a4 39 = .ok (.iadd, 1) := by decide +kernel
theorem dJ6_bitCount_0f7a4_40 : decode cJ6_bitCount_0f7a4 40 = .ok (.istore_n 0, 1) := by decide +kernel
theorem dJ6_bitCount_0f7a4_41 : decode cJ6_bitCount_0f7a4 41 = .ok (.iload_n 0, 1) := by decide +kernel
theorem dJ6_bitCount_0f7a4_42 : decode cJ6_bitCount_0f7a4 42 = .ok (.iload_n 0, 1) := by decide +kernel
theorem dJ6_bitCount_0f7a4_43 : decode cJ6_bitCount_0f7a4 43 = .ok (.bipush 16, 2) := by decide +kernel
theorem dJ6_bitCount_0f7a4_45 : decode cJ6_bitCount_0f7a4 45 = .ok (.iushr, 1) := by decide +kernel
theorem dJ6_bitCount_0f7a4_46 : decode cJ6_bitCount_0f7a4 46 = .ok (.iadd, 1) := by decide +kernel
theorem dJ6_bitCount_0f7a4_47 : decode cJ6_bitCount_0f7a4 47 = .ok (.istore_n 0, 1) := by decide +kernel
theorem dJ6_bitCount_0f7a4_48 : decode cJ6_bitCount_0f7a4 48 = .ok (.iload_n 0, 1) := by decide +kernel
theorem dJ6_bitCount_0f7a4_49 : decode cJ6_bitCount_0f7a4 49 = .ok (.bipush 63, 2) := by decide +kernel
theorem dJ6_bitCount_0f7a4_51 : decode cJ6_bitCount_0f7a4 51 = .ok (.iand, 1) := by decide +kernel
theorem dJ6_bitCount_0f7a4_52 : decode cJ6_bitCount_0f7a4 52 = .ok (.ireturn, 1) := by decide +kernel
theorem dJ9_abs_0f7a4_0 : decode cJ9_abs_0f7a4 0 = .ok (.iload_n 0, 1) := by decide +kernel
theorem dJ9_abs_0f7a4_1 : decode cJ9_abs_0f7a4 1 = .ok (.ifCond .ge 8, 3) := by decide +kernel
theorem dJ9_abs_0f7a4_4 : decode cJ9_abs_0f7a4 4 = .ok (.iload_n 0, 1) := by decide +kernel
theorem dJ9_abs_0f7a4_5 : decode cJ9_abs_0f7a4 5 = .ok (.ineg, 1) := by decide +kernel
theorem dJ9_abs_0f7a4_6 : decode cJ9_abs_0f7a4 6 = .ok (.goto 4, 3) := by decide +kernel
theorem dJ9_abs_0f7a4_9 : decode cJ9_abs_0f7a4 9 = .ok (.iload_n 0, 1) := by decide +kernel
theorem dJ9_abs_0f7a4_10 : decode cJ9_abs_0f7a4 10 = .ok (.ireturn, 1) := by decide +kernel
theorem dJ9_max_7cf53_0 : decode cJ9_max_7cf53 0 = .ok (.iload_n 0, 1) := by decide +kernel
theorem dJ9_max_7cf53_1 : decode cJ9_max_7cf53 1 = .ok (.iload_n 1, 1) := by decide +kernel
theorem dJ9_max_7cf53_2 : decode cJ9_max_7cf53 2 = .ok (.if_icmp .lt 7, 3) := by decide +kernel
theorem dJ9_max_7cf53_5 : decode cJ9_max_7cf53 5 = .ok (.iload_n 0, 1) := by decide +kernel
theorem dJ9_max_7cf53_6 : decode cJ9_max_7cf53 6 = .ok (.goto 4, 3) := by decide +kernel
theorem dJ9_max_7cf53_9 : decode cJ9_max_7cf53 9 = .ok (.iload_n 1, 1) := by decide +kernel
theorem dJ9_max_7cf53_10 : decode cJ9_max_7cf53 10 = .ok (.ireturn, 1) := by decide +kernel
theorem dJ9_min_7cf53_0 : decode cJ9_min_7cf53 0 = .ok (.iload_n 0, 1) := by decide +kernel
theorem dJ9_min_7cf53_1 : decode cJ9_min_7cf53 1 = .ok (.iload_n 1, 1) := by decide +kernel
theorem dJ9_min_7cf53_2 : decode cJ9_min_7cf53 2 = .ok (.if_icmp .gt 7, 3) := by decide +kernel
theorem dJ9_min_7cf53_5 : decode cJ9_min_7cf53 5 = .ok (.iload_n 0, 1) := by decide +kernel
theorem dJ9_min_7cf53_6 : decode cJ9_min_7cf53 6 = .ok (.goto 4, 3) := by decide +kernel
theorem dJ9_min_7cf53_9 : decode cJ9_min_7cf53 9 = .ok (.iload_n 1, 1) := by decide +kernel
theorem dJ9_min_7cf53_10 : decode cJ9_min_7cf53 10 = .ok (.ireturn, 1) := by decide +kernel
theorem dL_addSinger_0 : decode cL_addSinger 0 = .ok (.aload 4, 2) := by decide +kernel
theorem dL_addSinger_2 : decode cL_addSinger 2 = .ok (.iconst 0, 1) := by decide +kernel
theorem dL_addSinger_3 : decode cL_addSinger 3 = .ok (.aload_n 0, 1) := by decide +kernel
theorem dL_addSinger_4 : decode cL_addSinger 4 = .ok (.iload_n 1, 1) := by decide +kernel
theorem dL_addSinger_5 : decode cL_addSinger 5 = .ok (.iload_n 2, 1) := by decide +kernel
theorem dL_addSinger_6 : decode cL_addSinger 6 = .ok (.iload_n 3, 1) := by decide +kernel
theorem dL_addSinger_7 : decode cL_addSinger 7 = .ok (.invokevirtual 7, 3) := by decide +kernel
theorem dL_addSinger_10 : decode cL_addSinger 10 = .ok (.i2l, 1) := by decide +kernel
theorem dL_addSinger_11 : decode cL_addSinger 11 = .ok (.lastore, 1) := by decide +kernel
theorem dL_addSinger_12 : decode cL_addSinger 12 = .ok (.goto 11, 3) := by decide +kernel
theorem dL_addSinger_15 : decode cL_addSinger 15 = .ok (.astore 5, 2) := by decide +kernel
theorem dL_addSinger_17 : decode cL_addSinger 17 = .ok (.iconst 1, 1) := by decide +kernel
theorem dL_addSinger_18 : decode cL_addSinger 18 = .ok (.ireturn, 1) := by decide +kernel
theorem dL_addSinger_19 : decode cL_addSinger 19 = .ok (.astore 5, 2) := by decide +kernel
theorem dL_addSinger_21 : decode cL_addSinger 21 = .ok (.iconst 2, 1) := by decide +kernel
theorem dL_addSinger_22 : decode cL_addSinger 22 = .ok (.ireturn, 1) := by decide +kernel
theorem dL_addSinger_23 : decode cL_addSinger 23 = .ok (.iconst 0, 1) := by decide +kernel
theorem dL_addSinger_24 : decode cL_addSinger 24 = .ok (.ireturn, 1) := by decide +kernel
theorem dL_tell_0 : decode cL_tell 0 = .ok (.aload 4, 2) := by decide +kernel
theorem dL_tell_2 : decode cL_tell 2 = .ok (.iconst 0, 1) := by decide +kernel
theorem dL_tell_3 : decode cL_tell 3 = .ok (.aload_n 0, 1) := by decide +kernel
theorem dL_tell_4 : decode cL_tell 4 = .ok (.iload_n 1, 1) := by decide +kernel
theorem dL_tell_5 : decode cL_tell 5 = .ok (.iload_n 2, 1) := by decide +kernel
theorem dL_tell_6 : decode cL_tell 6 = .ok (.iload_n 3, 1) := by decide +kernel
theorem dL_tell_7 : decode cL_tell 7 = .ok (.invokevirtual 17, 3) := by decide +kernel
theorem dL_tell_10 : decode cL_tell 10 = .ok (.ifCond .eq 7, 3) := by decide +kernel
theorem dL_tell_13 : decode cL_tell 13 = .ok (.lconst 1, 1) := by decide +kernel
theorem dL_tell_14 : decode cL_tell 14 = .ok (.goto 4, 3) := by decide +kernel
theorem dL_tell_17 : decode cL_tell 17 = .ok (.lconst 0, 1) := by decide +kernel
theorem dL_tell_18 : decode cL_tell 18 = .ok (.lastore, 1) := by decide +kernel
theorem dL_tell_19 : decode cL_tell 19 = .ok (.goto 11, 3) := by decide +kernel
theorem dL_tell_22 : decode cL_tell 22 = .ok (.astore 5, 2) := by decide +kernel
theorem dL_tell_24 : decode cL_tell 24 = .ok (.iconst 1, 1) := by decide +kernel
theorem dL_tell_25 : decode cL_tell 25 = .ok (.ireturn, 1) := by decide +kernel
theorem dL_tell_26 : decode cL_tell 26 = .ok (.astore 5, 2) := by decide +kernel
theorem dL_tell_28 : decode cL_tell 28 = .ok (.iconst 2, 1) := by decide +kernel
theorem dL_tell_29 : decode cL_tell 29 = .ok (.ireturn, 1) := by decide +kernel
theorem dL_tell_30 : decode cL_tell 30 = .ok (.iconst 0, 1) := by decide +kernel
theorem dL_tell_31 : decode cL_tell 31 = .ok (.ireturn, 1) := by decide +kernel
theorem dL_change_0 : decode cL_change 0 = .ok (.aload_n 3, 1) := by decide +kernel
theorem dL_change_1 : decode cL_change 1 = .ok (.iconst 0, 1) := by decide +kernel
theorem dL_change_2 : decode cL_change 2 = .ok (.aload_n 0, 1) := by decide +kernel
theorem dL_change_3 : decode cL_change 3 = .ok (.iload_n 1, 1) := by decide +kernel
theorem dL_change_4 : decode cL_change 4 = .ok (.iload_n 2, 1) := by decide +kernel
theorem dL_change_5 : decode cL_change 5 = .ok (.invokevirtual 23, 3) := by decide +kernel
theorem dL_change_8 : decode cL_change 8 = .ok (.i2l, 1) := by decide +kernel
theorem dL_change_9 : decode cL_change 9 = .ok (.lastore, 1) := by decide +kernel
theorem dL_change_10 : decode cL_change 10 = .ok (.goto 11, 3) := by decide +kernel
theorem dL_change_13 : decode cL_change 13 = .ok (.astore 4, 2) := by decide +kernel
theorem dL_change_15 : decode cL_change 15 = .ok (.iconst 1, 1) := by decide +kernel
theorem dL_change_16 : decode cL_change 16 = .ok (.ireturn, 1) := by decide +kernel
theorem dL_change_17 : decode cL_change 17 = .ok (.astore 4, 2) := by decide +kernel
theorem dL_change_19 : decode cL_change 19 = .ok (.iconst 2, 1) := by decide +kernel
theorem dL_change_20 : decode cL_change 20 = .ok (.ireturn, 1) := by decide +kernel
theorem dL_change_21 : decode cL_change 21 = .ok (.iconst 0, 1) := by decide +kernel
theorem dL_change_22 : decode cL_change 22 = .ok (.ireturn, 1) := by decide +kernel
theorem dL_range_0 : decode cL_range 0 = .ok (.aload_n 3, 1) := by decide +kernel
theorem dL_range_1 : decode cL_range 1 = .ok (.iconst 0, 1) := by decide +kernel
theorem dL_range_2 : decode cL_range 2 = .ok (.aload_n 0, 1) := by decide +kernel
theorem dL_range_3 : decode cL_range 3 = .ok (.iload_n 1, 1) := by decide +kernel
theorem dL_range_4 : decode cL_range 4 = .ok (.iload_n 2, 1) := by decide +kernel
theorem dL_range_5 : decode cL_range 5 = .ok (.invokevirtual 27, 3) := by decide +kernel
theorem dL_range_8 : decode cL_range 8 = .ok (.i2l, 1) := by decide +kernel
theorem dL_range_9 : decode cL_range 9 = .ok (.lastore, 1) := by decide +kernel
theorem dL_range_10 : decode cL_range 10 = .ok (.goto 7, 3) := by decide +kernel
theorem dL_range_13 : decode cL_range 13 = .ok (.astore 4, 2) := by decide +kernel
theorem dL_range_15 : decode cL_range 15 = .ok (.iconst 1, 1) := by decide +kernel
theorem dL_range_16 : decode cL_range 16 = .ok (.ireturn, 1) := by decide +kernel
theorem dL_range_17 : decode cL_range 17 = .ok (.iconst 0, 1) := by decide +kernel
theorem dL_range_18 : decode cL_range 18 = .ok (.ireturn, 1) := by decide +kernel
theorem dL_chord_0 : decode cL_chord 0 = .ok (.aload 5, 2) := by decide +kernel
theorem dL_chord_2 : decode cL_chord 2 = .ok (.iconst 0, 1) := by decide +kernel
theorem dL_chord_3 : decode cL_chord 3 = .ok (.aload_n 0, 1) := by decide +kernel
theorem dL_chord_4 : decode cL_chord 4 = .ok (.iload_n 1, 1) := by decide +kernel
theorem dL_chord_5 : decode cL_chord 5 = .ok (.iload_n 2, 1) := by decide +kernel
theorem dL_chord_6 : decode cL_chord 6 = .ok (.iload_n 3, 1) := by decide +kernel
theorem dL_chord_7 : decode cL_chord 7 = .ok (.iload 4, 2) := by decide +kernel
theorem dL_chord_9 : decode cL_chord 9 = .ok (.invokevirtual 30, 3) := by decide +kernel
theorem dL_chord_12 : decode cL_chord 12 = .ok (.i2l, 1) := by decide +kernel
theorem dL_chord_13 : decode cL_chord 13 = .ok (.lastore, 1) := by decide +kernel
theorem dL_chord_14 : decode cL_chord 14 = .ok (.goto 11, 3) := by decide +kernel
theorem dL_chord_17 : decode cL_chord 17 = .ok (.astore 6, 2) := by decide +kernel
theorem dL_chord_19 : decode cL_chord 19 = .ok (.iconst 1, 1) := by decide +kernel
theorem dL_chord_20 : decode cL_chord 20 = .ok (.ireturn, 1) := by decide +kernel
theorem dL_chord_21 : decode cL_chord 21 = .ok (.astore 6, 2) := by decide +kernel
theorem dL_chord_23 : decode cL_chord 23 = .ok (.iconst 2, 1) := by decide +kernel
theorem dL_chord_24 : decode cL_chord 24 = .ok (.ireturn, 1) := by decide +kernel
theorem dL_chord_25 : decode cL_chord 25 = .ok (.iconst 0, 1) := by decide +kernel
theorem dL_chord_26 : decode cL_chord 26 = .ok (.ireturn, 1) := by decide +kernel
theorem dL_addPiece_0 : decode cL_addPiece 0 = .ok (.aload_n 2, 1) := by decide +kernel
theorem dL_addPiece_1 : decode cL_addPiece 1 = .ok (.iconst 0, 1) := by decide +kernel
theorem dL_addPiece_2 : decode cL_addPiece 2 = .ok (.aload_n 0, 1) := by decide +kernel
theorem dL_addPiece_3 : decode cL_addPiece 3 = .ok (.iload_n 1, 1) := by decide +kernel
theorem dL_addPiece_4 : decode cL_addPiece 4 = .ok (.invokevirtual 34, 3) := by decide +kernel
theorem dL_addPiece_7 : decode cL_addPiece 7 = .ok (.i2l, 1) := by decide +kernel
theorem dL_addPiece_8 : decode cL_addPiece 8 = .ok (.lastore, 1) := by decide +kernel
theorem dL_addPiece_9 : decode cL_addPiece 9 = .ok (.goto 9, 3) := by decide +kernel
theorem dL_addPiece_12 : decode cL_addPiece 12 = .ok (.astore_n 3, 1) := by decide +kernel
theorem dL_addPiece_13 : decode cL_addPiece 13 = .ok (.iconst 1, 1) := by decide +kernel
theorem dL_addPiece_14 : decode cL_addPiece 14 = .ok (.ireturn, 1) := by decide +kernel
theorem dL_addPiece_15 : decode cL_addPiece 15 = .ok (.astore_n 3, 1) := by decide +kernel
theorem dL_addPiece_16 : decode cL_addPiece 16 = .ok (.iconst 2, 1) := by decide +kernel
theorem dL_addPiece_17 : decode cL_addPiece 17 = .ok (.ireturn, 1) := by decide +kernel
theorem dL_addPiece_18 : decode cL_addPiece 18 = .ok (.iconst 0, 1) := by decide +kernel
theorem dL_addPiece_19 : decode cL_addPiece 19 = .ok (.ireturn, 1) := by decide +kernel
theorem dL_setTone_0 : decode cL_setTone 0 = .ok (.aload 5, 2) := by decide +kernel
theorem dL_setTone_2 : decode cL_setTone 2 = .ok (.iconst 0, 1) := by decide +kernel
theorem dL_setTone_3 : decode cL_setTone 3 = .ok (.aload_n 0, 1) := by decide +kernel
theorem dL_setTone_4 : decode cL_setTone 4 = .ok (.iload_n 1, 1) := by decide +kernel
theorem dL_setTone_5 : decode cL_setTone 5 = .ok (.iload_n 2, 1) := by decide +kernel
theorem dL_setTone_6 : decode cL_setTone 6 = .ok (.iload_n 3, 1) := by decide +kernel
theorem dL_setTone_7 : decode cL_setTone 7 = .ok (.iload 4, 2) := by decide +kernel
theorem dL_setTone_9 : decode cL_setTone 9 = .ok (.invokevirtual 38, 3) := by decide +kernel
theorem dL_setTone_12 : decode cL_setTone 12 = .ok (.i2l, 1) := by decide +kernel
theorem dL_setTone_13 : decode cL_setTone 13 = .ok (.lastore, 1) := by decide +kernel
theorem dL_setTone_14 : decode cL_setTone 14 = .ok (.goto 15, 3) := by decide +kernel
theorem dL_setTone_17 : decode cL_setTone 17 = .ok (.astore 6, 2) := by decide +kernel
theorem dL_setTone_19 : decode cL_setTone 19 = .ok (.iconst 1, 1) := by decide +kernel
theorem dL_setTone_20 : decode cL_setTone 20 = .ok (.ireturn, 1) := by decide +kernel
theorem dL_setTone_21 : decode cL_setTone 21 = .ok (.astore 6, 2) := by decide +kernel
theorem dL_setTone_23 : decode cL_setTone 23 = .ok (.iconst 2, 1) := by decide +kernel
theorem dL_setTone_24 : decode cL_setTone 24 = .ok (.ireturn, 1) := by decide +kernel
theorem dL_setTone_25 : decode cL_setTone 25 = .ok (.astore 6, 2) := by decide +kernel
theorem dL_setTone_27 : decode cL_setTone 27 = .ok (.iconst 3, 1) := by decide +kernel
theorem dL_setTone_28 : decode cL_setTone 28 = .ok (.ireturn, 1) := by decide +kernel
theorem dL_setTone_29 : decode cL_setTone 29 = .ok (.iconst 0, 1) := by decide +kernel
theorem dL_setTone_30 : decode cL_setTone 30 = .ok (.ireturn, 1) := by decide +kernel
theorem dL_faultsAt_0 : decode cL_faultsAt 0 = .ok (.aload_n 3, 1) := by decide +kernel
theorem dL_faultsAt_1 : decode cL_faultsAt 1 = .ok (.iconst 0, 1) := by decide +kernel
theorem dL_faultsAt_2 : decode cL_faultsAt 2 = .ok (.aload_n 0, 1) := by decide +kernel
theorem dL_faultsAt_3 : decode cL_faultsAt 3 = .ok (.iload_n 1, 1) := by decide +kernel
theorem dL_faultsAt_4 : decode cL_faultsAt 4 = .ok (.iload_n 2, 1) := by decide +kernel
theorem dL_faultsAt_5 : decode cL_faultsAt 5 = .ok (.invokevirtual 41, 3) := by decide +kernel
theorem dL_faultsAt_8 : decode cL_faultsAt 8 = .ok (.i2l, 1) := by decide +kernel
theorem dL_faultsAt_9 : decode cL_faultsAt 9 = .ok (.lastore, 1) := by decide +kernel
theorem dL_faultsAt_10 : decode cL_faultsAt 10 = .ok (.goto 7, 3) := by decide +kernel
theorem dL_faultsAt_13 : decode cL_faultsAt 13 = .ok (.astore 4, 2) := by decide +kernel
theorem dL_faultsAt_15 : decode cL_faultsAt 15 = .ok (.iconst 1, 1) := by decide +kernel
theorem dL_faultsAt_16 : decode cL_faultsAt 16 = .ok (.ireturn, 1) := by decide +kernel
theorem dL_faultsAt_17 : decode cL_faultsAt 17 = .ok (.iconst 0, 1) := by decide +kernel
theorem dL_faultsAt_18 : decode cL_faultsAt 18 = .ok (.ireturn, 1) := by decide +kernel
theorem dL_faults_0 : decode cL_faults 0 = .ok (.aload_n 2, 1) := by decide +kernel
theorem dL_faults_1 : decode cL_faults 1 = .ok (.iconst 0, 1) := by decide +kernel
theorem dL_faults_2 : decode cL_faults 2 = .ok (.aload_n 0, 1) := by decide +kernel
theorem dL_faults_3 : decode cL_faults 3 = .ok (.iload_n 1, 1) := by decide +kernel
theorem dL_faults_4 : decode cL_faults 4 = .ok (.invokevirtual 44, 3) := by decide +kernel
theorem dL_faults_7 : decode cL_faults 7 = .ok (.i2l, 1) := by decide +kernel
theorem dL_faults_8 : decode cL_faults 8 = .ok (.lastore, 1) := by decide +kernel
theorem dL_faults_9 : decode cL_faults 9 = .ok (.goto 6, 3) := by decide +kernel
theorem dL_faults_12 : decode cL_faults 12 = .ok (.astore_n 3, 1) := by decide +kernel
theorem dL_faults_13 : decode cL_faults 13 = .ok (.iconst 1, 1) := by decide +kernel
theorem dL_faults_14 : decode cL_faults 14 = .ok (.ireturn, 1) := by decide +kernel
theorem dL_faults_15 : decode cL_faults 15 = .ok (.iconst 0, 1) := by decide +kernel
theorem dL_faults_16 : decode cL_faults 16 = .ok (.ireturn, 1) := by decide +kernel
theorem dL_leastFaults_0 : decode cL_leastFaults 0 = .ok (.aload 4, 2) := by decide +kernel
theorem dL_leastFaults_2 : decode cL_leastFaults 2 = .ok (.iconst 0, 1) := by decide +kernel
theorem dL_leastFaults_3 : decode cL_leastFaults 3 = .ok (.aload_n 0, 1) := by decide +kernel
theorem dL_leastFaults_4 : decode cL_leastFaults 4 = .ok (.iload_n 1, 1) := by decide +kernel
theorem dL_leastFaults_5 : decode cL_leastFaults 5 = .ok (.iload_n 2, 1) := by decide +kernel
theorem dL_leastFaults_6 : decode cL_leastFaults 6 = .ok (.iload_n 3, 1) := by decide +kernel
theorem dL_leastFaults_7 : decode cL_leastFaults 7 = .ok (.invokevirtual 47, 3) := by decide +kernel
theorem dL_leastFaults_10 : decode cL_leastFaults 10 = .ok (.i2l, 1) := by decide +kernel
theorem dL_leastFaults_11 : decode cL_leastFaults 11 = .ok (.lastore, 1) := by decide +kernel
theorem dL_leastFaults_12 : decode cL_leastFaults 12 = .ok (.goto 11, 3) := by decide +kernel
theorem dL_leastFaults_15 : decode cL_leastFaults 15 = .ok (.astore 5, 2) := by decide +kernel
theorem dL_leastFaults_17 : decode cL_leastFaults 17 = .ok (.iconst 1, 1) := by decide +kernel
theorem dL_leastFaults_18 : decode cL_leastFaults 18 = .ok (.ireturn, 1) := by decide +kernel
theorem dL_leastFaults_19 : decode cL_leastFaults 19 = .ok (.astore 5, 2) := by decide +kernel
theorem dL_leastFaults_21 : decode cL_leastFaults 21 = .ok (.iconst 2, 1) := by decide +kernel
theorem dL_leastFaults_22 : decode cL_leastFaults 22 = .ok (.ireturn, 1) := by decide +kernel
theorem dL_leastFaults_23 : decode cL_leastFaults 23 = .ok (.iconst 0, 1) := by decide +kernel
theorem dL_leastFaults_24 : decode cL_leastFaults 24 = .ok (.ireturn, 1) := by decide +kernel
theorem dL_shift_0 : decode cL_shift 0 = .ok (.aload_n 3, 1) := by decide +kernel
theorem dL_shift_1 : decode cL_shift 1 = .ok (.iconst 0, 1) := by decide +kernel
theorem dL_shift_2 : decode cL_shift 2 = .ok (.aload_n 0, 1) := by decide +kernel
theorem dL_shift_3 : decode cL_shift 3 = .ok (.iload_n 1, 1) := by decide +kernel
theorem dL_shift_4 : decode cL_shift 4 = .ok (.iload_n 2, 1) := by decide +kernel
theorem dL_shift_5 : decode cL_shift 5 = .ok (.invokevirtual 50, 3) := by decide +kernel
theorem dL_shift_8 : decode cL_shift 8 = .ok (.i2l, 1) := by decide +kernel
theorem dL_shift_9 : decode cL_shift 9 = .ok (.lastore, 1) := by decide +kernel
theorem dL_shift_10 : decode cL_shift 10 = .ok (.goto 15, 3) := by decide +kernel
theorem dL_shift_13 : decode cL_shift 13 = .ok (.astore 4, 2) := by decide +kernel
theorem dL_shift_15 : decode cL_shift 15 = .ok (.iconst 1, 1) := by decide +kernel
theorem dL_shift_16 : decode cL_shift 16 = .ok (.ireturn, 1) := by decide +kernel
theorem dL_shift_17 : decode cL_shift 17 = .ok (.astore 4, 2) := by decide +kernel
theorem dL_shift_19 : decode cL_shift 19 = .ok (.iconst 2, 1) := by decide +kernel
theorem dL_shift_20 : decode cL_shift 20 = .ok (.ireturn, 1) := by decide +kernel
theorem dL_shift_21 : decode cL_shift 21 = .ok (.astore 4, 2) := by decide +kernel
theorem dL_shift_23 : decode cL_shift 23 = .ok (.iconst 3, 1) := by decide +kernel
theorem dL_shift_24 : decode cL_shift 24 = .ok (.ireturn, 1) := by decide +kernel
theorem dL_shift_25 : decode cL_shift 25 = .ok (.iconst 0, 1) := by decide +kernel
theorem dL_shift_26 : decode cL_shift 26 = .ok (.ireturn, 1) := by decide +kernel
theorem dL_dates_0 : decode cL_dates 0 = .ok (.aload_n 2, 1) := by decide +kernel
theorem dL_dates_1 : decode cL_dates 1 = .ok (.iconst 0, 1) := by decide +kernel
theorem dL_dates_2 : decode cL_dates 2 = .ok (.aload_n 0, 1) := by decide +kernel
theorem dL_dates_3 : decode cL_dates 3 = .ok (.iload_n 1, 1) := by decide +kernel
theorem dL_dates_4 : decode cL_dates 4 = .ok (.invokevirtual 53, 3) := by decide +kernel
theorem dL_dates_7 : decode cL_dates 7 = .ok (.i2l, 1) := by decide +kernel
theorem dL_dates_8 : decode cL_dates 8 = .ok (.lastore, 1) := by decide +kernel
theorem dL_dates_9 : decode cL_dates 9 = .ok (.goto 6, 3) := by decide +kernel
theorem dL_dates_12 : decode cL_dates 12 = .ok (.astore_n 3, 1) := by decide +kernel
theorem dL_dates_13 : decode cL_dates 13 = .ok (.iconst 1, 1) := by decide +kernel
theorem dL_dates_14 : decode cL_dates 14 = .ok (.ireturn, 1) := by decide +kernel
theorem dL_dates_15 : decode cL_dates 15 = .ok (.iconst 0, 1) := by decide +kernel
theorem dL_dates_16 : decode cL_dates 16 = .ok (.ireturn, 1) := by decide +kernel
theorem dL_missed_0 : decode cL_missed 0 = .ok (.aload_n 2, 1) := by decide +kernel
theorem dL_missed_1 : decode cL_missed 1 = .ok (.iconst 0, 1) := by decide +kernel
theorem dL_missed_2 : decode cL_missed 2 = .ok (.aload_n 0, 1) := by decide +kernel
theorem dL_missed_3 : decode cL_missed 3 = .ok (.iload_n 1, 1) := by decide +kernel
end
section
theorem dL_missed_4 : decode cL_missed 4 = .ok (.invokevirtual 56, 3) := by decide +kernel
theorem dL_missed_7 : decode cL_missed 7 = .ok (.i2l, 1) := by decide +kernel
theorem dL_missed_8 : decode cL_missed 8 = .ok (.lastore, 1) := by decide +kernel
theorem dL_missed_9 : decode cL_missed 9 = .ok (.goto 6, 3) := by decide +kernel
theorem dL_missed_12 : decode cL_missed 12 = .ok (.astore_n 3, 1) := by decide +kernel
theorem dL_missed_13 : decode cL_missed 13 = .ok (.iconst 1, 1) := by decide +kernel
theorem dL_missed_14 : decode cL_missed 14 = .ok (.ireturn, 1) := by decide +kernel
theorem dL_missed_15 : decode cL_missed 15 = .ok (.iconst 0, 1) := by decide +kernel
theorem dL_missed_16 : decode cL_missed 16 = .ok (.ireturn, 1) := by decide +kernel
theorem dL_programme_0 : decode cL_programme 0 = .ok (.aload_n 3, 1) := by decide +kernel
theorem dL_programme_1 : decode cL_programme 1 = .ok (.iconst 0, 1) := by decide +kernel
theorem dL_programme_2 : decode cL_programme 2 = .ok (.aload_n 0, 1) := by decide +kernel
theorem dL_programme_3 : decode cL_programme 3 = .ok (.iload_n 1, 1) := by decide +kernel
theorem dL_programme_4 : decode cL_programme 4 = .ok (.iload_n 2, 1) := by decide +kernel
theorem dL_programme_5 : decode cL_programme 5 = .ok (.invokevirtual 59, 3) := by decide +kernel
theorem dL_programme_8 : decode cL_programme 8 = .ok (.i2l, 1) := by decide +kernel
theorem dL_programme_9 : decode cL_programme 9 = .ok (.lastore, 1) := by decide +kernel
theorem dL_programme_10 : decode cL_programme 10 = .ok (.goto 7, 3) := by decide +kernel
theorem dL_programme_13 : decode cL_programme 13 = .ok (.astore 4, 2) := by decide +kernel
theorem dL_programme_15 : decode cL_programme 15 = .ok (.iconst 1, 1) := by decide +kernel
theorem dL_programme_16 : decode cL_programme 16 = .ok (.ireturn, 1) := by decide +kernel
theorem dL_programme_17 : decode cL_programme 17 = .ok (.iconst 0, 1) := by decide +kernel
theorem dL_programme_18 : decode cL_programme 18 = .ok (.ireturn, 1) := by decide +kernel
theorem dL_duration_0 : decode cL_duration 0 = .ok (.aload_n 3, 1) := by decide +kernel
theorem dL_duration_1 : decode cL_duration 1 = .ok (.iconst 0, 1) := by decide +kernel
theorem dL_duration_2 : decode cL_duration 2 = .ok (.aload_n 0, 1) := by decide +kernel
theorem dL_duration_3 : decode cL_duration 3 = .ok (.iload_n 1, 1) := by decide +kernel
theorem dL_duration_4 : decode cL_duration 4 = .ok (.iload_n 2, 1) := by decide +kernel
theorem dL_duration_5 : decode cL_duration 5 = .ok (.invokevirtual 62, 3) := by decide +kernel
theorem dL_duration_8 : decode cL_duration 8 = .ok (.i2l, 1) := by decide +kernel
theorem dL_duration_9 : decode cL_duration 9 = .ok (.lastore, 1) := by decide +kernel
theorem dL_duration_10 : decode cL_duration 10 = .ok (.goto 7, 3) := by decide +kernel
theorem dL_duration_13 : decode cL_duration 13 = .ok (.astore 4, 2) := by decide +kernel
theorem dL_duration_15 : decode cL_duration 15 = .ok (.iconst 1, 1) := by decide +kernel
theorem dL_duration_16 : decode cL_duration 16 = .ok (.ireturn, 1) := by decide +kernel
theorem dL_duration_17 : decode cL_duration 17 = .ok (.iconst 0, 1) := by decide +kernel
theorem dL_duration_18 : decode cL_duration 18 = .ok (.ireturn, 1) := by decide +kernel
theorem dL_rehearse_0 : decode cL_rehearse 0 = .ok (.aload_n 3, 1) := by decide +kernel
theorem dL_rehearse_1 : decode cL_rehearse 1 = .ok (.iconst 0, 1) := by decide +kernel
theorem dL_rehearse_2 : decode cL_rehearse 2 = .ok (.aload_n 0, 1) := by decide +kernel
theorem dL_rehearse_3 : decode cL_rehearse 3 = .ok (.iload_n 1, 1) := by decide +kernel
theorem dL_rehearse_4 : decode cL_rehearse 4 = .ok (.iload_n 2, 1) := by decide +kernel
theorem dL_rehearse_5 : decode cL_rehearse 5 = .ok (.invokevirtual 65, 3) := by decide +kernel
theorem dL_rehearse_8 : decode cL_rehearse 8 = .ok (.i2l, 1) := by decide +kernel
theorem dL_rehearse_9 : decode cL_rehearse 9 = .ok (.lastore, 1) := by decide +kernel
theorem dL_rehearse_10 : decode cL_rehearse 10 = .ok (.goto 11, 3) := by decide +kernel
theorem dL_rehearse_13 : decode cL_rehearse 13 = .ok (.astore 4, 2) := by decide +kernel
theorem dL_rehearse_15 : decode cL_rehearse 15 = .ok (.iconst 1, 1) := by decide +kernel
theorem dL_rehearse_16 : decode cL_rehearse 16 = .ok (.ireturn, 1) := by decide +kernel
theorem dL_rehearse_17 : decode cL_rehearse 17 = .ok (.astore 4, 2) := by decide +kernel
theorem dL_rehearse_19 : decode cL_rehearse 19 = .ok (.iconst 2, 1) := by decide +kernel
theorem dL_rehearse_20 : decode cL_rehearse 20 = .ok (.ireturn, 1) := by decide +kernel
theorem dL_rehearse_21 : decode cL_rehearse 21 = .ok (.iconst 0, 1) := by decide +kernel
theorem dL_rehearse_22 : decode cL_rehearse 22 = .ok (.ireturn, 1) := by decide +kernel
theorem dL_weakness_0 : decode cL_weakness 0 = .ok (.aload_n 3, 1) := by decide +kernel
theorem dL_weakness_1 : decode cL_weakness 1 = .ok (.iconst 0, 1) := by decide +kernel
theorem dL_weakness_2 : decode cL_weakness 2 = .ok (.aload_n 0, 1) := by decide +kernel
theorem dL_weakness_3 : decode cL_weakness 3 = .ok (.iload_n 1, 1) := by decide +kernel
theorem dL_weakness_4 : decode cL_weakness 4 = .ok (.iload_n 2, 1) := by decide +kernel
theorem dL_weakness_5 : decode cL_weakness 5 = .ok (.invokevirtual 68, 3) := by decide +kernel
theorem dL_weakness_8 : decode cL_weakness 8 = .ok (.i2l, 1) := by decide +kernel
theorem dL_weakness_9 : decode cL_weakness 9 = .ok (.lastore, 1) := by decide +kernel
theorem dL_weakness_10 : decode cL_weakness 10 = .ok (.goto 7, 3) := by decide +kernel
theorem dL_weakness_13 : decode cL_weakness 13 = .ok (.astore 4, 2) := by decide +kernel
theorem dL_weakness_15 : decode cL_weakness 15 = .ok (.iconst 1, 1) := by decide +kernel
theorem dL_weakness_16 : decode cL_weakness 16 = .ok (.ireturn, 1) := by decide +kernel
theorem dL_weakness_17 : decode cL_weakness 17 = .ok (.iconst 0, 1) := by decide +kernel
theorem dL_weakness_18 : decode cL_weakness 18 = .ok (.ireturn, 1) := by decide +kernel
theorem dL_weakest_0 : decode cL_weakest 0 = .ok (.aload_n 2, 1) := by decide +kernel
theorem dL_weakest_1 : decode cL_weakest 1 = .ok (.iconst 0, 1) := by decide +kernel
theorem dL_weakest_2 : decode cL_weakest 2 = .ok (.aload_n 0, 1) := by decide +kernel
theorem dL_weakest_3 : decode cL_weakest 3 = .ok (.iload_n 1, 1) := by decide +kernel
theorem dL_weakest_4 : decode cL_weakest 4 = .ok (.invokevirtual 71, 3) := by decide +kernel
theorem dL_weakest_7 : decode cL_weakest 7 = .ok (.i2l, 1) := by decide +kernel
theorem dL_weakest_8 : decode cL_weakest 8 = .ok (.lastore, 1) := by decide +kernel
theorem dL_weakest_9 : decode cL_weakest 9 = .ok (.goto 6, 3) := by decide +kernel
theorem dL_weakest_12 : decode cL_weakest 12 = .ok (.astore_n 3, 1) := by decide +kernel
theorem dL_weakest_13 : decode cL_weakest 13 = .ok (.iconst 1, 1) := by decide +kernel
theorem dL_weakest_14 : decode cL_weakest 14 = .ok (.ireturn, 1) := by decide +kernel
theorem dL_weakest_15 : decode cL_weakest 15 = .ok (.iconst 0, 1) := by decide +kernel
theorem dL_weakest_16 : decode cL_weakest 16 = .ok (.ireturn, 1) := by decide +kernel
end
section
theorem dL_law_0 : decode cL_law 0 = .ok (.new 8, 3) := by decide +kernel
theorem dL_law_3 : decode cL_law 3 = .ok (.dup, 1) := by decide +kernel
theorem dL_law_4 : decode cL_law 4 = .ok (.invokespecial 74, 3) := by decide +kernel
theorem dL_law_7 : decode cL_law 7 = .ok (.astore_n 1, 1) := by decide +kernel
theorem dL_law_8 : decode cL_law 8 = .ok (.new 75, 3) := by decide +kernel
theorem dL_law_11 : decode cL_law 11 = .ok (.dup, 1) := by decide +kernel
theorem dL_law_12 : decode cL_law 12 = .ok (.invokespecial 77, 3) := by decide +kernel
theorem dL_law_15 : decode cL_law 15 = .ok (.astore_n 2, 1) := by decide +kernel
theorem dL_law_16 : decode cL_law 16 = .ok (.iconst 1, 1) := by decide +kernel
theorem dL_law_17 : decode cL_law 17 = .ok (.newarray .long, 2) := by decide +kernel
theorem dL_law_19 : decode cL_law 19 = .ok (.astore_n 3, 1) := by decide +kernel
theorem dL_law_20 : decode cL_law 20 = .ok (.iconst 0, 1) := by decide +kernel
theorem dL_law_21 : decode cL_law 21 = .ok (.istore 4, 2) := by decide +kernel
theorem dL_law_23 : decode cL_law 23 = .ok (.iload 4, 2) := by decide +kernel
theorem dL_law_25 : decode cL_law 25 = .ok (.aload_n 0, 1) := by decide +kernel
theorem dL_law_26 : decode cL_law 26 = .ok (.arraylength, 1) := by decide +kernel
theorem dL_law_27 : decode cL_law 27 = .ok (.iconst 5, 1) := by decide +kernel
theorem dL_law_28 : decode cL_law 28 = .ok (.isub, 1) := by decide +kernel
theorem dL_law_29 : decode cL_law 29 = .ok (.if_icmp .gt 1372, 3) := by decide +kernel
theorem dL_law_32 : decode cL_law 32 = .ok (.aload_n 0, 1) := by decide +kernel
theorem dL_law_33 : decode cL_law 33 = .ok (.iload 4, 2) := by decide +kernel
theorem dL_law_35 : decode cL_law 35 = .ok (.iaload, 1) := by decide +kernel
theorem dL_law_36 : decode cL_law 36 = .ok (.bipush 31, 2) := by decide +kernel
theorem dL_law_38 : decode cL_law 38 = .ok (.iand, 1) := by decide +kernel
theorem dL_law_39 : decode cL_law 39 = .ok (.tableswitch 1356 0 17 #[85, 165, 268, 336, 404, 496, 552, 644, 712, 768, 848, 916, 972, 1028, 1096, 1164, 1232, 1300], 85) := by decide +kernel
theorem dL_law_124 : decode cL_law 124 = .ok (.aload_n 1, 1) := by decide +kernel
theorem dL_law_125 : decode cL_law 125 = .ok (.aload_n 0, 1) := by decide +kernel
theorem dL_law_126 : decode cL_law 126 = .ok (.iload 4, 2) := by decide +kernel
theorem dL_law_128 : decode cL_law 128 = .ok (.iconst 1, 1) := by decide +kernel
theorem dL_law_129 : decode cL_law 129 = .ok (.iadd, 1) := by decide +kernel
theorem dL_law_130 : decode cL_law 130 = .ok (.iaload, 1) := by decide +kernel
theorem dL_law_131 : decode cL_law 131 = .ok (.aload_n 0, 1) := by decide +kernel
theorem dL_law_132 : decode cL_law 132 = .ok (.iload 4, 2) := by decide +kernel
theorem dL_law_134 : decode cL_law 134 = .ok (.iconst 2, 1) := by decide +kernel
theorem dL_law_135 : decode cL_law 135 = .ok (.iadd, 1) := by decide +kernel
theorem dL_law_136 : decode cL_law 136 = .ok (.iaload, 1) := by decide +kernel
theorem dL_law_137 : decode cL_law 137 = .ok (.aload_n 0, 1) := by decide +kernel
theorem dL_law_138 : decode cL_law 138 = .ok (.iload 4, 2) := by decide +kernel
theorem dL_law_140 : decode cL_law 140 = .ok (.iconst 3, 1) := by decide +kernel
theorem dL_law_141 : decode cL_law 141 = .ok (.iadd, 1) := by decide +kernel
theorem dL_law_142 : decode cL_law 142 = .ok (.iaload, 1) := by decide +kernel
theorem dL_law_143 : decode cL_law 143 = .ok (.aload_n 3, 1) := by decide +kernel
theorem dL_law_144 : decode cL_law 144 = .ok (.invokestatic 78, 3) := by decide +kernel
theorem dL_law_147 : decode cL_law 147 = .ok (.istore 5, 2) := by decide +kernel
theorem dL_law_149 : decode cL_law 149 = .ok (.aload_n 2, 1) := by decide +kernel
theorem dL_law_150 : decode cL_law 150 = .ok (.aload_n 0, 1) := by decide +kernel
theorem dL_law_151 : decode cL_law 151 = .ok (.iload 4, 2) := by decide +kernel
theorem dL_law_153 : decode cL_law 153 = .ok (.iconst 1, 1) := by decide +kernel
theorem dL_law_154 : decode cL_law 154 = .ok (.iadd, 1) := by decide +kernel
theorem dL_law_155 : decode cL_law 155 = .ok (.iaload, 1) := by decide +kernel
theorem dL_law_156 : decode cL_law 156 = .ok (.aload_n 0, 1) := by decide +kernel
theorem dL_law_157 : decode cL_law 157 = .ok (.iload 4, 2) := by decide +kernel
theorem dL_law_159 : decode cL_law 159 = .ok (.iconst 2, 1) := by decide +kernel
theorem dL_law_160 : decode cL_law 160 = .ok (.iadd, 1) := by decide +kernel
theorem dL_law_161 : decode cL_law 161 = .ok (.iaload, 1) := by decide +kernel
theorem dL_law_162 : decode cL_law 162 = .ok (.aload_n 0, 1) := by decide +kernel
theorem dL_law_163 : decode cL_law 163 = .ok (.iload 4, 2) := by decide +kernel
theorem dL_law_165 : decode cL_law 165 = .ok (.iconst 3, 1) := by decide +kernel
theorem dL_law_166 : decode cL_law 166 = .ok (.iadd, 1) := by decide +kernel
theorem dL_law_167 : decode cL_law 167 = .ok (.iaload, 1) := by decide +kernel
theorem dL_law_168 : decode cL_law 168 = .ok (.invokevirtual 83, 3) := by decide +kernel
theorem dL_law_171 : decode cL_law 171 = .ok (.istore 6, 2) := by decide +kernel
theorem dL_law_173 : decode cL_law 173 = .ok (.aload_n 2, 1) := by decide +kernel
theorem dL_law_174 : decode cL_law 174 = .ok (.invokevirtual 84, 3) := by decide +kernel
theorem dL_law_177 : decode cL_law 177 = .ok (.iload 5, 2) := by decide +kernel
theorem dL_law_179 : decode cL_law 179 = .ok (.if_icmp .eq 5, 3) := by decide +kernel
theorem dL_law_182 : decode cL_law 182 = .ok (.iconst 0, 1) := by decide +kernel
theorem dL_law_183 : decode cL_law 183 = .ok (.ireturn, 1) := by decide +kernel
theorem dL_law_184 : decode cL_law 184 = .ok (.iload 5, 2) := by decide +kernel
theorem dL_law_186 : decode cL_law 186 = .ok (.ifCond .ne 15, 3) := by decide +kernel
theorem dL_law_189 : decode cL_law 189 = .ok (.aload_n 3, 1) := by decide +kernel
theorem dL_law_190 : decode cL_law 190 = .ok (.iconst 0, 1) := by decide +kernel
theorem dL_law_191 : decode cL_law 191 = .ok (.laload, 1) := by decide +kernel
theorem dL_law_192 : decode cL_law 192 = .ok (.iload 6, 2) := by decide +kernel
theorem dL_law_194 : decode cL_law 194 = .ok (.i2l, 1) := by decide +kernel
theorem dL_law_195 : decode cL_law 195 = .ok (.lcmp, 1) := by decide +kernel
theorem dL_law_196 : decode cL_law 196 = .ok (.ifCond .eq 5, 3) := by decide +kernel
theorem dL_law_199 : decode cL_law 199 = .ok (.iconst 0, 1) := by decide +kernel
theorem dL_law_200 : decode cL_law 200 = .ok (.ireturn, 1) := by decide +kernel
theorem dL_law_201 : decode cL_law 201 = .ok (.goto 1194, 3) := by decide +kernel
theorem dL_law_204 : decode cL_law 204 = .ok (.aload_n 1, 1) := by decide +kernel
theorem dL_law_205 : decode cL_law 205 = .ok (.aload_n 0, 1) := by decide +kernel
theorem dL_law_206 : decode cL_law 206 = .ok (.iload 4, 2) := by decide +kernel
theorem dL_law_208 : decode cL_law 208 = .ok (.iconst 1, 1) := by decide +kernel
theorem dL_law_209 : decode cL_law 209 = .ok (.iadd, 1) := by decide +kernel
theorem dL_law_210 : decode cL_law 210 = .ok (.iaload, 1) := by decide +kernel
theorem dL_law_211 : decode cL_law 211 = .ok (.aload_n 0, 1) := by decide +kernel
theorem dL_law_212 : decode cL_law 212 = .ok (.iload 4, 2) := by decide +kernel
theorem dL_law_214 : decode cL_law 214 = .ok (.iconst 2, 1) := by decide +kernel
theorem dL_law_215 : decode cL_law 215 = .ok (.iadd, 1) := by decide +kernel
theorem dL_law_216 : decode cL_law 216 = .ok (.iaload, 1) := by decide +kernel
theorem dL_law_217 : decode cL_law 217 = .ok (.aload_n 0, 1) := by decide +kernel
theorem dL_law_218 : decode cL_law 218 = .ok (.iload 4, 2) := by decide +kernel
theorem dL_law_220 : decode cL_law 220 = .ok (.iconst 3, 1) := by decide +kernel
theorem dL_law_221 : decode cL_law 221 = .ok (.iadd, 1) := by decide +kernel
theorem dL_law_222 : decode cL_law 222 = .ok (.iaload, 1) := by decide +kernel
theorem dL_law_223 : decode cL_law 223 = .ok (.ifCond .eq 7, 3) := by decide +kernel
theorem dL_law_226 : decode cL_law 226 = .ok (.iconst 1, 1) := by decide +kernel
theorem dL_law_227 : decode cL_law 227 = .ok (.goto 4, 3) := by decide +kernel
theorem dL_law_230 : decode cL_law 230 = .ok (.iconst 0, 1) := by decide +kernel
theorem dL_law_231 : decode cL_law 231 = .ok (.aload_n 3, 1) := by decide +kernel
theorem dL_law_232 : decode cL_law 232 = .ok (.invokestatic 88, 3) := by decide +kernel
theorem dL_law_235 : decode cL_law 235 = .ok (.istore 5, 2) := by decide +kernel
theorem dL_law_237 : decode cL_law 237 = .ok (.aload_n 2, 1) := by decide +kernel
theorem dL_law_238 : decode cL_law 238 = .ok (.aload_n 0, 1) := by decide +kernel
theorem dL_law_239 : decode cL_law 239 = .ok (.iload 4, 2) := by decide +kernel
theorem dL_law_241 : decode cL_law 241 = .ok (.iconst 1, 1) := by decide +kernel
theorem dL_law_242 : decode cL_law 242 = .ok (.iadd, 1) := by decide +kernel
theorem dL_law_243 : decode cL_law 243 = .ok (.iaload, 1) := by decide +kernel
theorem dL_law_244 : decode cL_law 244 = .ok (.aload_n 0, 1) := by decide +kernel
end
section
theorem dL_law_245 : decode cL_law 245 = .ok (.iload 4, 2) := by decide +kernel
theorem dL_law_247 : decode cL_law 247 = .ok (.iconst 2, 1) := by decide +kernel
theorem dL_law_248 : decode cL_law 248 = .ok (.iadd, 1) := by decide +kernel
theorem dL_law_249 : decode cL_law 249 = .ok (.iaload, 1) := by decide +kernel
theorem dL_law_250 : decode cL_law 250 = .ok (.aload_n 0, 1) := by decide +kernel
theorem dL_law_251 : decode cL_law 251 = .ok (.iload 4, 2) := by decide +kernel
theorem dL_law_253 : decode cL_law 253 = .ok (.iconst 3, 1) := by decide +kernel
theorem dL_law_254 : decode cL_law 254 = .ok (.iadd, 1) := by decide +kernel
theorem dL_law_255 : decode cL_law 255 = .ok (.iaload, 1) := by decide +kernel
theorem dL_law_256 : decode cL_law 256 = .ok (.ifCond .eq 7, 3) := by decide +kernel
theorem dL_law_259 : decode cL_law 259 = .ok (.iconst 1, 1) := by decide +kernel
theorem dL_law_260 : decode cL_law 260 = .ok (.goto 4, 3) := by decide +kernel
theorem dL_law_263 : decode cL_law 263 = .ok (.iconst 0, 1) := by decide +kernel
theorem dL_law_264 : decode cL_law 264 = .ok (.invokevirtual 91, 3) := by decide +kernel
theorem dL_law_267 : decode cL_law 267 = .ok (.istore 6, 2) := by decide +kernel
theorem dL_law_269 : decode cL_law 269 = .ok (.aload_n 2, 1) := by decide +kernel
theorem dL_law_270 : decode cL_law 270 = .ok (.invokevirtual 84, 3) := by decide +kernel
theorem dL_law_273 : decode cL_law 273 = .ok (.iload 5, 2) := by decide +kernel
theorem dL_law_275 : decode cL_law 275 = .ok (.if_icmp .eq 5, 3) := by decide +kernel
theorem dL_law_278 : decode cL_law 278 = .ok (.iconst 0, 1) := by decide +kernel
theorem dL_law_279 : decode cL_law 279 = .ok (.ireturn, 1) := by decide +kernel
theorem dL_law_280 : decode cL_law 280 = .ok (.iload 5, 2) := by decide +kernel
theorem dL_law_282 : decode cL_law 282 = .ok (.ifCond .ne 22, 3) := by decide +kernel
theorem dL_law_285 : decode cL_law 285 = .ok (.aload_n 3, 1) := by decide +kernel
theorem dL_law_286 : decode cL_law 286 = .ok (.iconst 0, 1) := by decide +kernel
theorem dL_law_287 : decode cL_law 287 = .ok (.laload, 1) := by decide +kernel
theorem dL_law_288 : decode cL_law 288 = .ok (.iload 6, 2) := by decide +kernel
theorem dL_law_290 : decode cL_law 290 = .ok (.ifCond .eq 7, 3) := by decide +kernel
theorem dL_law_293 : decode cL_law 293 = .ok (.lconst 1, 1) := by decide +kernel
theorem dL_law_294 : decode cL_law 294 = .ok (.goto 4, 3) := by decide +kernel
theorem dL_law_297 : decode cL_law 297 = .ok (.lconst 0, 1) := by decide +kernel
theorem dL_law_298 : decode cL_law 298 = .ok (.lcmp, 1) := by decide +kernel
theorem dL_law_299 : decode cL_law 299 = .ok (.ifCond .eq 5, 3) := by decide +kernel
theorem dL_law_302 : decode cL_law 302 = .ok (.iconst 0, 1) := by decide +kernel
theorem dL_law_303 : decode cL_law 303 = .ok (.ireturn, 1) := by decide +kernel
theorem dL_law_304 : decode cL_law 304 = .ok (.goto 1091, 3) := by decide +kernel
theorem dL_law_307 : decode cL_law 307 = .ok (.aload_n 1, 1) := by decide +kernel
theorem dL_law_308 : decode cL_law 308 = .ok (.aload_n 0, 1) := by decide +kernel
theorem dL_law_309 : decode cL_law 309 = .ok (.iload 4, 2) := by decide +kernel
theorem dL_law_311 : decode cL_law 311 = .ok (.iconst 1, 1) := by decide +kernel
theorem dL_law_312 : decode cL_law 312 = .ok (.iadd, 1) := by decide +kernel
theorem dL_law_313 : decode cL_law 313 = .ok (.iaload, 1) := by decide +kernel
theorem dL_law_314 : decode cL_law 314 = .ok (.aload_n 0, 1) := by decide +kernel
theorem dL_law_315 : decode cL_law 315 = .ok (.iload 4, 2) := by decide +kernel
theorem dL_law_317 : decode cL_law 317 = .ok (.iconst 2, 1) := by decide +kernel
theorem dL_law_318 : decode cL_law 318 = .ok (.iadd, 1) := by decide +kernel
theorem dL_law_319 : decode cL_law 319 = .ok (.iaload, 1) := by decide +kernel
theorem dL_law_320 : decode cL_law 320 = .ok (.aload_n 3, 1) := by decide +kernel
theorem dL_law_321 : decode cL_law 321 = .ok (.invokestatic 92, 3) := by decide +kernel
theorem dL_law_324 : decode cL_law 324 = .ok (.istore 5, 2) := by decide +kernel
theorem dL_law_326 : decode cL_law 326 = .ok (.aload_n 2, 1) := by decide +kernel
theorem dL_law_327 : decode cL_law 327 = .ok (.aload_n 0, 1) := by decide +kernel
theorem dL_law_328 : decode cL_law 328 = .ok (.iload 4, 2) := by decide +kernel
theorem dL_law_330 : decode cL_law 330 = .ok (.iconst 1, 1) := by decide +kernel
theorem dL_law_331 : decode cL_law 331 = .ok (.iadd, 1) := by decide +kernel
theorem dL_law_332 : decode cL_law 332 = .ok (.iaload, 1) := by decide +kernel
theorem dL_law_333 : decode cL_law 333 = .ok (.aload_n 0, 1) := by decide +kernel
theorem dL_law_334 : decode cL_law 334 = .ok (.iload 4, 2) := by decide +kernel
theorem dL_law_336 : decode cL_law 336 = .ok (.iconst 2, 1) := by decide +kernel
theorem dL_law_337 : decode cL_law 337 = .ok (.iadd, 1) := by decide +kernel
theorem dL_law_338 : decode cL_law 338 = .ok (.iaload, 1) := by decide +kernel
theorem dL_law_339 : decode cL_law 339 = .ok (.invokevirtual 95, 3) := by decide +kernel
theorem dL_law_342 : decode cL_law 342 = .ok (.istore 6, 2) := by decide +kernel
theorem dL_law_344 : decode cL_law 344 = .ok (.aload_n 2, 1) := by decide +kernel
theorem dL_law_345 : decode cL_law 345 = .ok (.invokevirtual 84, 3) := by decide +kernel
theorem dL_law_348 : decode cL_law 348 = .ok (.iload 5, 2) := by decide +kernel
theorem dL_law_350 : decode cL_law 350 = .ok (.if_icmp .eq 5, 3) := by decide +kernel
theorem dL_law_353 : decode cL_law 353 = .ok (.iconst 0, 1) := by decide +kernel
theorem dL_law_354 : decode cL_law 354 = .ok (.ireturn, 1) := by decide +kernel
theorem dL_law_355 : decode cL_law 355 = .ok (.iload 5, 2) := by decide +kernel
theorem dL_law_357 : decode cL_law 357 = .ok (.ifCond .ne 15, 3) := by decide +kernel
theorem dL_law_360 : decode cL_law 360 = .ok (.aload_n 3, 1) := by decide +kernel
theorem dL_law_361 : decode cL_law 361 = .ok (.iconst 0, 1) := by decide +kernel
theorem dL_law_362 : decode cL_law 362 = .ok (.laload, 1) := by decide +kernel
theorem dL_law_363 : decode cL_law 363 = .ok (.iload 6, 2) := by decide +kernel
theorem dL_law_365 : decode cL_law 365 = .ok (.i2l, 1) := by decide +kernel
theorem dL_law_366 : decode cL_law 366 = .ok (.lcmp, 1) := by decide +kernel
theorem dL_law_367 : decode cL_law 367 = .ok (.ifCond .eq 5, 3) := by decide +kernel
theorem dL_law_370 : decode cL_law 370 = .ok (.iconst 0, 1) := by decide +kernel
theorem dL_law_371 : decode cL_law 371 = .ok (.ireturn, 1) := by decide +kernel
theorem dL_law_372 : decode cL_law 372 = .ok (.goto 1023, 3) := by decide +kernel
theorem dL_law_375 : decode cL_law 375 = .ok (.aload_n 1, 1) := by decide +kernel
theorem dL_law_376 : decode cL_law 376 = .ok (.aload_n 0, 1) := by decide +kernel
theorem dL_law_377 : decode cL_law 377 = .ok (.iload 4, 2) := by decide +kernel
theorem dL_law_379 : decode cL_law 379 = .ok (.iconst 1, 1) := by decide +kernel
theorem dL_law_380 : decode cL_law 380 = .ok (.iadd, 1) := by decide +kernel
theorem dL_law_381 : decode cL_law 381 = .ok (.iaload, 1) := by decide +kernel
theorem dL_law_382 : decode cL_law 382 = .ok (.aload_n 0, 1) := by decide +kernel
theorem dL_law_383 : decode cL_law 383 = .ok (.iload 4, 2) := by decide +kernel
theorem dL_law_385 : decode cL_law 385 = .ok (.iconst 2, 1) := by decide +kernel
theorem dL_law_386 : decode cL_law 386 = .ok (.iadd, 1) := by decide +kernel
theorem dL_law_387 : decode cL_law 387 = .ok (.iaload, 1) := by decide +kernel
theorem dL_law_388 : decode cL_law 388 = .ok (.aload_n 3, 1) := by decide +kernel
theorem dL_law_389 : decode cL_law 389 = .ok (.invokestatic 96, 3) := by decide +kernel
theorem dL_law_392 : decode cL_law 392 = .ok (.istore 5, 2) := by decide +kernel
theorem dL_law_394 : decode cL_law 394 = .ok (.aload_n 2, 1) := by decide +kernel
theorem dL_law_395 : decode cL_law 395 = .ok (.aload_n 0, 1) := by decide +kernel
theorem dL_law_396 : decode cL_law 396 = .ok (.iload 4, 2) := by decide +kernel
theorem dL_law_398 : decode cL_law 398 = .ok (.iconst 1, 1) := by decide +kernel
theorem dL_law_399 : decode cL_law 399 = .ok (.iadd, 1) := by decide +kernel
theorem dL_law_400 : decode cL_law 400 = .ok (.iaload, 1) := by decide +kernel
theorem dL_law_401 : decode cL_law 401 = .ok (.aload_n 0, 1) := by decide +kernel
theorem dL_law_402 : decode cL_law 402 = .ok (.iload 4, 2) := by decide +kernel
theorem dL_law_404 : decode cL_law 404 = .ok (.iconst 2, 1) := by decide +kernel
theorem dL_law_405 : decode cL_law 405 = .ok (.iadd, 1) := by decide +kernel
theorem dL_law_406 : decode cL_law 406 = .ok (.iaload, 1) := by decide +kernel
theorem dL_law_407 : decode cL_law 407 = .ok (.invokevirtual 98, 3) := by decide +kernel
theorem dL_law_410 : decode cL_law 410 = .ok (.istore 6, 2) := by decide +kernel
theorem dL_law_412 : decode cL_law 412 = .ok (.aload_n 2, 1) := by decide +kernel
theorem dL_law_413 : decode cL_law 413 = .ok (.invokevirtual 84, 3) := by decide +kernel
end
section
theorem dL_law_416 : decode cL_law 416 = .ok (.iload 5, 2) := by decide +kernel
theorem dL_law_418 : decode cL_law 418 = .ok (.if_icmp .eq 5, 3) := by decide +kernel
theorem dL_law_421 : decode cL_law 421 = .ok (.iconst 0, 1) := by decide +kernel
theorem dL_law_422 : decode cL_law 422 = .ok (.ireturn, 1) := by decide +kernel
theorem dL_law_423 : decode cL_law 423 = .ok (.iload 5, 2) := by decide +kernel
theorem dL_law_425 : decode cL_law 425 = .ok (.ifCond .ne 15, 3) := by decide +kernel
theorem dL_law_428 : decode cL_law 428 = .ok (.aload_n 3, 1) := by decide +kernel
theorem dL_law_429 : decode cL_law 429 = .ok (.iconst 0, 1) := by decide +kernel
theorem dL_law_430 : decode cL_law 430 = .ok (.laload, 1) := by decide +kernel
theorem dL_law_431 : decode cL_law 431 = .ok (.iload 6, 2) := by decide +kernel
theorem dL_law_433 : decode cL_law 433 = .ok (.i2l, 1) := by decide +kernel
theorem dL_law_434 : decode cL_law 434 = .ok (.lcmp, 1) := by decide +kernel
theorem dL_law_435 : decode cL_law 435 = .ok (.ifCond .eq 5, 3) := by decide +kernel
theorem dL_law_438 : decode cL_law 438 = .ok (.iconst 0, 1) := by decide +kernel
theorem dL_law_439 : decode cL_law 439 = .ok (.ireturn, 1) := by decide +kernel
theorem dL_law_440 : decode cL_law 440 = .ok (.goto 955, 3) := by decide +kernel
theorem dL_law_443 : decode cL_law 443 = .ok (.aload_n 1, 1) := by decide +kernel
theorem dL_law_444 : decode cL_law 444 = .ok (.aload_n 0, 1) := by decide +kernel
theorem dL_law_445 : decode cL_law 445 = .ok (.iload 4, 2) := by decide +kernel
theorem dL_law_447 : decode cL_law 447 = .ok (.iconst 1, 1) := by decide +kernel
theorem dL_law_448 : decode cL_law 448 = .ok (.iadd, 1) := by decide +kernel
theorem dL_law_449 : decode cL_law 449 = .ok (.iaload, 1) := by decide +kernel
theorem dL_law_450 : decode cL_law 450 = .ok (.aload_n 0, 1) := by decide +kernel
theorem dL_law_451 : decode cL_law 451 = .ok (.iload 4, 2) := by decide +kernel
theorem dL_law_453 : decode cL_law 453 = .ok (.iconst 2, 1) := by decide +kernel
theorem dL_law_454 : decode cL_law 454 = .ok (.iadd, 1) := by decide +kernel
theorem dL_law_455 : decode cL_law 455 = .ok (.iaload, 1) := by decide +kernel
theorem dL_law_456 : decode cL_law 456 = .ok (.aload_n 0, 1) := by decide +kernel
theorem dL_law_457 : decode cL_law 457 = .ok (.iload 4, 2) := by decide +kernel
theorem dL_law_459 : decode cL_law 459 = .ok (.iconst 3, 1) := by decide +kernel
theorem dL_law_460 : decode cL_law 460 = .ok (.iadd, 1) := by decide +kernel
theorem dL_law_461 : decode cL_law 461 = .ok (.iaload, 1) := by decide +kernel
theorem dL_law_462 : decode cL_law 462 = .ok (.aload_n 0, 1) := by decide +kernel
theorem dL_law_463 : decode cL_law 463 = .ok (.iload 4, 2) := by decide +kernel
theorem dL_law_465 : decode cL_law 465 = .ok (.iconst 4, 1) := by decide +kernel
theorem dL_law_466 : decode cL_law 466 = .ok (.iadd, 1) := by decide +kernel
theorem dL_law_467 : decode cL_law 467 = .ok (.iaload, 1) := by decide +kernel
theorem dL_law_468 : decode cL_law 468 = .ok (.aload_n 3, 1) := by decide +kernel
theorem dL_law_469 : decode cL_law 469 = .ok (.invokestatic 99, 3) := by decide +kernel
theorem dL_law_472 : decode cL_law 472 = .ok (.istore 5, 2) := by decide +kernel
theorem dL_law_474 : decode cL_law 474 = .ok (.aload_n 2, 1) := by decide +kernel
theorem dL_law_475 : decode cL_law 475 = .ok (.aload_n 0, 1) := by decide +kernel
theorem dL_law_476 : decode cL_law 476 = .ok (.iload 4, 2) := by decide +kernel
theorem dL_law_478 : decode cL_law 478 = .ok (.iconst 1, 1) := by decide +kernel
theorem dL_law_479 : decode cL_law 479 = .ok (.iadd, 1) := by decide +kernel
theorem dL_law_480 : decode cL_law 480 = .ok (.iaload, 1) := by decide +kernel
theorem dL_law_481 : decode cL_law 481 = .ok (.aload_n 0, 1) := by decide +kernel
theorem dL_law_482 : decode cL_law 482 = .ok (.iload 4, 2) := by decide +kernel
theorem dL_law_484 : decode cL_law 484 = .ok (.iconst 2, 1) := by decide +kernel
theorem dL_law_485 : decode cL_law 485 = .ok (.iadd, 1) := by decide +kernel
theorem dL_law_486 : decode cL_law 486 = .ok (.iaload, 1) := by decide +kernel
theorem dL_law_487 : decode cL_law 487 = .ok (.aload_n 0, 1) := by decide +kernel
theorem dL_law_488 : decode cL_law 488 = .ok (.iload 4, 2) := by decide +kernel
theorem dL_law_490 : decode cL_law 490 = .ok (.iconst 3, 1) := by decide +kernel
theorem dL_law_491 : decode cL_law 491 = .ok (.iadd, 1) := by decide +kernel
theorem dL_law_492 : decode cL_law 492 = .ok (.iaload, 1) := by decide +kernel
theorem dL_law_493 : decode cL_law 493 = .ok (.aload_n 0, 1) := by decide +kernel
theorem dL_law_494 : decode cL_law 494 = .ok (.iload 4, 2) := by decide +kernel
theorem dL_law_496 : decode cL_law 496 = .ok (.iconst 4, 1) := by decide +kernel
theorem dL_law_497 : decode cL_law 497 = .ok (.iadd, 1) := by decide +kernel
theorem dL_law_498 : decode cL_law 498 = .ok (.iaload, 1) := by decide +kernel
theorem dL_law_499 : decode cL_law 499 = .ok (.invokevirtual 102, 3) := by decide +kernel
theorem dL_law_502 : decode cL_law 502 = .ok (.istore 6, 2) := by decide +kernel
theorem dL_law_504 : decode cL_law 504 = .ok (.aload_n 2, 1) := by decide +kernel
theorem dL_law_505 : decode cL_law 505 = .ok (.invokevirtual 84, 3) := by decide +kernel
theorem dL_law_508 : decode cL_law 508 = .ok (.iload 5, 2) := by decide +kernel
theorem dL_law_510 : decode cL_law 510 = .ok (.if_icmp .eq 5, 3) := by decide +kernel
theorem dL_law_513 : decode cL_law 513 = .ok (.iconst 0, 1) := by decide +kernel
theorem dL_law_514 : decode cL_law 514 = .ok (.ireturn, 1) := by decide +kernel
theorem dL_law_515 : decode cL_law 515 = .ok (.iload 5, 2) := by decide +kernel
theorem dL_law_517 : decode cL_law 517 = .ok (.ifCond .ne 15, 3) := by decide +kernel
theorem dL_law_520 : decode cL_law 520 = .ok (.aload_n 3, 1) := by decide +kernel
theorem dL_law_521 : decode cL_law 521 = .ok (.iconst 0, 1) := by decide +kernel
theorem dL_law_522 : decode cL_law 522 = .ok (.laload, 1) := by decide +kernel
theorem dL_law_523 : decode cL_law 523 = .ok (.iload 6, 2) := by decide +kernel
theorem dL_law_525 : decode cL_law 525 = .ok (.i2l, 1) := by decide +kernel
theorem dL_law_526 : decode cL_law 526 = .ok (.lcmp, 1) := by decide +kernel
theorem dL_law_527 : decode cL_law 527 = .ok (.ifCond .eq 5, 3) := by decide +kernel
theorem dL_law_530 : decode cL_law 530 = .ok (.iconst 0, 1) := by decide +kernel
theorem dL_law_531 : decode cL_law 531 = .ok (.ireturn, 1) := by decide +kernel
theorem dL_law_532 : decode cL_law 532 = .ok (.goto 863, 3) := by decide +kernel
theorem dL_law_535 : decode cL_law 535 = .ok (.aload_n 1, 1) := by decide +kernel
theorem dL_law_536 : decode cL_law 536 = .ok (.aload_n 0, 1) := by decide +kernel
theorem dL_law_537 : decode cL_law 537 = .ok (.iload 4, 2) := by decide +kernel
theorem dL_law_539 : decode cL_law 539 = .ok (.iconst 1, 1) := by decide +kernel
theorem dL_law_540 : decode cL_law 540 = .ok (.iadd, 1) := by decide +kernel
theorem dL_law_541 : decode cL_law 541 = .ok (.iaload, 1) := by decide +kernel
theorem dL_law_542 : decode cL_law 542 = .ok (.aload_n 3, 1) := by decide +kernel
theorem dL_law_543 : decode cL_law 543 = .ok (.invokestatic 103, 3) := by decide +kernel
theorem dL_law_546 : decode cL_law 546 = .ok (.istore 5, 2) := by decide +kernel
theorem dL_law_548 : decode cL_law 548 = .ok (.aload_n 2, 1) := by decide +kernel
theorem dL_law_549 : decode cL_law 549 = .ok (.aload_n 0, 1) := by decide +kernel
theorem dL_law_550 : decode cL_law 550 = .ok (.iload 4, 2) := by decide +kernel
theorem dL_law_552 : decode cL_law 552 = .ok (.iconst 1, 1) := by decide +kernel
theorem dL_law_553 : decode cL_law 553 = .ok (.iadd, 1) := by decide +kernel
theorem dL_law_554 : decode cL_law 554 = .ok (.iaload, 1) := by decide +kernel
theorem dL_law_555 : decode cL_law 555 = .ok (.invokevirtual 106, 3) := by decide +kernel
theorem dL_law_558 : decode cL_law 558 = .ok (.istore 6, 2) := by decide +kernel
theorem dL_law_560 : decode cL_law 560 = .ok (.aload_n 2, 1) := by decide +kernel
theorem dL_law_561 : decode cL_law 561 = .ok (.invokevirtual 84, 3) := by decide +kernel
theorem dL_law_564 : decode cL_law 564 = .ok (.iload 5, 2) := by decide +kernel
theorem dL_law_566 : decode cL_law 566 = .ok (.if_icmp .eq 5, 3) := by decide +kernel
theorem dL_law_569 : decode cL_law 569 = .ok (.iconst 0, 1) := by decide +kernel
theorem dL_law_570 : decode cL_law 570 = .ok (.ireturn, 1) := by decide +kernel
theorem dL_law_571 : decode cL_law 571 = .ok (.iload 5, 2) := by decide +kernel
theorem dL_law_573 : decode cL_law 573 = .ok (.ifCond .ne 15, 3) := by decide +kernel
theorem dL_law_576 : decode cL_law 576 = .ok (.aload_n 3, 1) := by decide +kernel
theorem dL_law_577 : decode cL_law 577 = .ok (.iconst 0, 1) := by decide +kernel
theorem dL_law_578 : decode cL_law 578 = .ok (.laload, 1) := by decide +kernel
theorem dL_law_579 : decode cL_law 579 = .ok (.iload 6, 2) := by decide +kernel
end
section
theorem dL_law_581 : decode cL_law 581 = .ok (.i2l, 1) := by decide +kernel
theorem dL_law_582 : decode cL_law 582 = .ok (.lcmp, 1) := by decide +kernel
theorem dL_law_583 : decode cL_law 583 = .ok (.ifCond .eq 5, 3) := by decide +kernel
theorem dL_law_586 : decode cL_law 586 = .ok (.iconst 0, 1) := by decide +kernel
theorem dL_law_587 : decode cL_law 587 = .ok (.ireturn, 1) := by decide +kernel
theorem dL_law_588 : decode cL_law 588 = .ok (.goto 807, 3) := by decide +kernel
theorem dL_law_591 : decode cL_law 591 = .ok (.aload_n 1, 1) := by decide +kernel
theorem dL_law_592 : decode cL_law 592 = .ok (.aload_n 0, 1) := by decide +kernel
theorem dL_law_593 : decode cL_law 593 = .ok (.iload 4, 2) := by decide +kernel
theorem dL_law_595 : decode cL_law 595 = .ok (.iconst 1, 1) := by decide +kernel
theorem dL_law_596 : decode cL_law 596 = .ok (.iadd, 1) := by decide +kernel
theorem dL_law_597 : decode cL_law 597 = .ok (.iaload, 1) := by decide +kernel
theorem dL_law_598 : decode cL_law 598 = .ok (.aload_n 0, 1) := by decide +kernel
theorem dL_law_599 : decode cL_law 599 = .ok (.iload 4, 2) := by decide +kernel
theorem dL_law_601 : decode cL_law 601 = .ok (.iconst 2, 1) := by decide +kernel
theorem dL_law_602 : decode cL_law 602 = .ok (.iadd, 1) := by decide +kernel
theorem dL_law_603 : decode cL_law 603 = .ok (.iaload, 1) := by decide +kernel
theorem dL_law_604 : decode cL_law 604 = .ok (.aload_n 0, 1) := by decide +kernel
theorem dL_law_605 : decode cL_law 605 = .ok (.iload 4, 2) := by decide +kernel
theorem dL_law_607 : decode cL_law 607 = .ok (.iconst 3, 1) := by decide +kernel
theorem dL_law_608 : decode cL_law 608 = .ok (.iadd, 1) := by decide +kernel
theorem dL_law_609 : decode cL_law 609 = .ok (.iaload, 1) := by decide +kernel
theorem dL_law_610 : decode cL_law 610 = .ok (.aload_n 0, 1) := by decide +kernel
theorem dL_law_611 : decode cL_law 611 = .ok (.iload 4, 2) := by decide +kernel
theorem dL_law_613 : decode cL_law 613 = .ok (.iconst 4, 1) := by decide +kernel
theorem dL_law_614 : decode cL_law 614 = .ok (.iadd, 1) := by decide +kernel
theorem dL_law_615 : decode cL_law 615 = .ok (.iaload, 1) := by decide +kernel
theorem dL_law_616 : decode cL_law 616 = .ok (.aload_n 3, 1) := by decide +kernel
theorem dL_law_617 : decode cL_law 617 = .ok (.invokestatic 107, 3) := by decide +kernel
theorem dL_law_620 : decode cL_law 620 = .ok (.istore 5, 2) := by decide +kernel
theorem dL_law_622 : decode cL_law 622 = .ok (.aload_n 2, 1) := by decide +kernel
theorem dL_law_623 : decode cL_law 623 = .ok (.aload_n 0, 1) := by decide +kernel
theorem dL_law_624 : decode cL_law 624 = .ok (.iload 4, 2) := by decide +kernel
theorem dL_law_626 : decode cL_law 626 = .ok (.iconst 1, 1) := by decide +kernel
theorem dL_law_627 : decode cL_law 627 = .ok (.iadd, 1) := by decide +kernel
theorem dL_law_628 : decode cL_law 628 = .ok (.iaload, 1) := by decide +kernel
theorem dL_law_629 : decode cL_law 629 = .ok (.aload_n 0, 1) := by decide +kernel
theorem dL_law_630 : decode cL_law 630 = .ok (.iload 4, 2) := by decide +kernel
theorem dL_law_632 : decode cL_law 632 = .ok (.iconst 2, 1) := by decide +kernel
theorem dL_law_633 : decode cL_law 633 = .ok (.iadd, 1) := by decide +kernel
theorem dL_law_634 : decode cL_law 634 = .ok (.iaload, 1) := by decide +kernel
theorem dL_law_635 : decode cL_law 635 = .ok (.aload_n 0, 1) := by decide +kernel
theorem dL_law_636 : decode cL_law 636 = .ok (.iload 4, 2) := by decide +kernel
theorem dL_law_638 : decode cL_law 638 = .ok (.iconst 3, 1) := by decide +kernel
theorem dL_law_639 : decode cL_law 639 = .ok (.iadd, 1) := by decide +kernel
theorem dL_law_640 : decode cL_law 640 = .ok (.iaload, 1) := by decide +kernel
theorem dL_law_641 : decode cL_law 641 = .ok (.aload_n 0, 1) := by decide +kernel
theorem dL_law_642 : decode cL_law 642 = .ok (.iload 4, 2) := by decide +kernel
theorem dL_law_644 : decode cL_law 644 = .ok (.iconst 4, 1) := by decide +kernel
theorem dL_law_645 : decode cL_law 645 = .ok (.iadd, 1) := by decide +kernel
theorem dL_law_646 : decode cL_law 646 = .ok (.iaload, 1) := by decide +kernel
theorem dL_law_647 : decode cL_law 647 = .ok (.invokevirtual 109, 3) := by decide +kernel
theorem dL_law_650 : decode cL_law 650 = .ok (.istore 6, 2) := by decide +kernel
theorem dL_law_652 : decode cL_law 652 = .ok (.aload_n 2, 1) := by decide +kernel
theorem dL_law_653 : decode cL_law 653 = .ok (.invokevirtual 84, 3) := by decide +kernel
theorem dL_law_656 : decode cL_law 656 = .ok (.iload 5, 2) := by decide +kernel
theorem dL_law_658 : decode cL_law 658 = .ok (.if_icmp .eq 5, 3) := by decide +kernel
theorem dL_law_661 : decode cL_law 661 = .ok (.iconst 0, 1) := by decide +kernel
theorem dL_law_662 : decode cL_law 662 = .ok (.ireturn, 1) := by decide +kernel
theorem dL_law_663 : decode cL_law 663 = .ok (.iload 5, 2) := by decide +kernel
theorem dL_law_665 : decode cL_law 665 = .ok (.ifCond .ne 15, 3) := by decide +kernel
theorem dL_law_668 : decode cL_law 668 = .ok (.aload_n 3, 1) := by decide +kernel
theorem dL_law_669 : decode cL_law 669 = .ok (.iconst 0, 1) := by decide +kernel
theorem dL_law_670 : decode cL_law 670 = .ok (.laload, 1) := by decide +kernel
theorem dL_law_671 : decode cL_law 671 = .ok (.iload 6, 2) := by decide +kernel
theorem dL_law_673 : decode cL_law 673 = .ok (.i2l, 1) := by decide +kernel
theorem dL_law_674 : decode cL_law 674 = .ok (.lcmp, 1) := by decide +kernel
theorem dL_law_675 : decode cL_law 675 = .ok (.ifCond .eq 5, 3) := by decide +kernel
theorem dL_law_678 : decode cL_law 678 = .ok (.iconst 0, 1) := by decide +kernel
theorem dL_law_679 : decode cL_law 679 = .ok (.ireturn, 1) := by decide +kernel
theorem dL_law_680 : decode cL_law 680 = .ok (.goto 715, 3) := by decide +kernel
theorem dL_law_683 : decode cL_law 683 = .ok (.aload_n 1, 1) := by decide +kernel
theorem dL_law_684 : decode cL_law 684 = .ok (.aload_n 0, 1) := by decide +kernel
theorem dL_law_685 : decode cL_law 685 = .ok (.iload 4, 2) := by decide +kernel
theorem dL_law_687 : decode cL_law 687 = .ok (.iconst 1, 1) := by decide +kernel
theorem dL_law_688 : decode cL_law 688 = .ok (.iadd, 1) := by decide +kernel
theorem dL_law_689 : decode cL_law 689 = .ok (.iaload, 1) := by decide +kernel
theorem dL_law_690 : decode cL_law 690 = .ok (.aload_n 0, 1) := by decide +kernel
theorem dL_law_691 : decode cL_law 691 = .ok (.iload 4, 2) := by decide +kernel
theorem dL_law_693 : decode cL_law 693 = .ok (.iconst 2, 1) := by decide +kernel
theorem dL_law_694 : decode cL_law 694 = .ok (.iadd, 1) := by decide +kernel
theorem dL_law_695 : decode cL_law 695 = .ok (.iaload, 1) := by decide +kernel
theorem dL_law_696 : decode cL_law 696 = .ok (.aload_n 3, 1) := by decide +kernel
theorem dL_law_697 : decode cL_law 697 = .ok (.invokestatic 110, 3) := by decide +kernel
theorem dL_law_700 : decode cL_law 700 = .ok (.istore 5, 2) := by decide +kernel
theorem dL_law_702 : decode cL_law 702 = .ok (.aload_n 2, 1) := by decide +kernel
theorem dL_law_703 : decode cL_law 703 = .ok (.aload_n 0, 1) := by decide +kernel
theorem dL_law_704 : decode cL_law 704 = .ok (.iload 4, 2) := by decide +kernel
theorem dL_law_706 : decode cL_law 706 = .ok (.iconst 1, 1) := by decide +kernel
theorem dL_law_707 : decode cL_law 707 = .ok (.iadd, 1) := by decide +kernel
theorem dL_law_708 : decode cL_law 708 = .ok (.iaload, 1) := by decide +kernel
theorem dL_law_709 : decode cL_law 709 = .ok (.aload_n 0, 1) := by decide +kernel
theorem dL_law_710 : decode cL_law 710 = .ok (.iload 4, 2) := by decide +kernel
theorem dL_law_712 : decode cL_law 712 = .ok (.iconst 2, 1) := by decide +kernel
theorem dL_law_713 : decode cL_law 713 = .ok (.iadd, 1) := by decide +kernel
theorem dL_law_714 : decode cL_law 714 = .ok (.iaload, 1) := by decide +kernel
theorem dL_law_715 : decode cL_law 715 = .ok (.invokevirtual 112, 3) := by decide +kernel
theorem dL_law_718 : decode cL_law 718 = .ok (.istore 6, 2) := by decide +kernel
theorem dL_law_720 : decode cL_law 720 = .ok (.aload_n 2, 1) := by decide +kernel
theorem dL_law_721 : decode cL_law 721 = .ok (.invokevirtual 84, 3) := by decide +kernel
theorem dL_law_724 : decode cL_law 724 = .ok (.iload 5, 2) := by decide +kernel
theorem dL_law_726 : decode cL_law 726 = .ok (.if_icmp .eq 5, 3) := by decide +kernel
theorem dL_law_729 : decode cL_law 729 = .ok (.iconst 0, 1) := by decide +kernel
theorem dL_law_730 : decode cL_law 730 = .ok (.ireturn, 1) := by decide +kernel
theorem dL_law_731 : decode cL_law 731 = .ok (.iload 5, 2) := by decide +kernel
theorem dL_law_733 : decode cL_law 733 = .ok (.ifCond .ne 15, 3) := by decide +kernel
theorem dL_law_736 : decode cL_law 736 = .ok (.aload_n 3, 1) := by decide +kernel
theorem dL_law_737 : decode cL_law 737 = .ok (.iconst 0, 1) := by decide +kernel
theorem dL_law_738 : decode cL_law 738 = .ok (.laload, 1) := by decide +kernel
theorem dL_law_739 : decode cL_law 739 = .ok (.iload 6, 2) := by decide +kernel
end
section
theorem dL_law_741 : decode cL_law 741 = .ok (.i2l, 1) := by decide +kernel
theorem dL_law_742 : decode cL_law 742 = .ok (.lcmp, 1) := by decide +kernel
theorem dL_law_743 : decode cL_law 743 = .ok (.ifCond .eq 5, 3) := by decide +kernel
theorem dL_law_746 : decode cL_law 746 = .ok (.iconst 0, 1) := by decide +kernel
theorem dL_law_747 : decode cL_law 747 = .ok (.ireturn, 1) := by decide +kernel
theorem dL_law_748 : decode cL_law 748 = .ok (.goto 647, 3) := by decide +kernel
theorem dL_law_751 : decode cL_law 751 = .ok (.aload_n 1, 1) := by decide +kernel
theorem dL_law_752 : decode cL_law 752 = .ok (.aload_n 0, 1) := by decide +kernel
theorem dL_law_753 : decode cL_law 753 = .ok (.iload 4, 2) := by decide +kernel
theorem dL_law_755 : decode cL_law 755 = .ok (.iconst 1, 1) := by decide +kernel
theorem dL_law_756 : decode cL_law 756 = .ok (.iadd, 1) := by decide +kernel
theorem dL_law_757 : decode cL_law 757 = .ok (.iaload, 1) := by decide +kernel
theorem dL_law_758 : decode cL_law 758 = .ok (.aload_n 3, 1) := by decide +kernel
theorem dL_law_759 : decode cL_law 759 = .ok (.invokestatic 113, 3) := by decide +kernel
theorem dL_law_762 : decode cL_law 762 = .ok (.istore 5, 2) := by decide +kernel
theorem dL_law_764 : decode cL_law 764 = .ok (.aload_n 2, 1) := by decide +kernel
theorem dL_law_765 : decode cL_law 765 = .ok (.aload_n 0, 1) := by decide +kernel
theorem dL_law_766 : decode cL_law 766 = .ok (.iload 4, 2) := by decide +kernel
theorem dL_law_768 : decode cL_law 768 = .ok (.iconst 1, 1) := by decide +kernel
theorem dL_law_769 : decode cL_law 769 = .ok (.iadd, 1) := by decide +kernel
theorem dL_law_770 : decode cL_law 770 = .ok (.iaload, 1) := by decide +kernel
theorem dL_law_771 : decode cL_law 771 = .ok (.invokevirtual 115, 3) := by decide +kernel
theorem dL_law_774 : decode cL_law 774 = .ok (.istore 6, 2) := by decide +kernel
theorem dL_law_776 : decode cL_law 776 = .ok (.aload_n 2, 1) := by decide +kernel
theorem dL_law_777 : decode cL_law 777 = .ok (.invokevirtual 84, 3) := by decide +kernel
theorem dL_law_780 : decode cL_law 780 = .ok (.iload 5, 2) := by decide +kernel
theorem dL_law_782 : decode cL_law 782 = .ok (.if_icmp .eq 5, 3) := by decide +kernel
theorem dL_law_785 : decode cL_law 785 = .ok (.iconst 0, 1) := by decide +kernel
theorem dL_law_786 : decode cL_law 786 = .ok (.ireturn, 1) := by decide +kernel
theorem dL_law_787 : decode cL_law 787 = .ok (.iload 5, 2) := by decide +kernel
theorem dL_law_789 : decode cL_law 789 = .ok (.ifCond .ne 15, 3) := by decide +kernel
theorem dL_law_792 : decode cL_law 792 = .ok (.aload_n 3, 1) := by decide +kernel
theorem dL_law_793 : decode cL_law 793 = .ok (.iconst 0, 1) := by decide +kernel
theorem dL_law_794 : decode cL_law 794 = .ok (.laload, 1) := by decide +kernel
theorem dL_law_795 : decode cL_law 795 = .ok (.iload 6, 2) := by decide +kernel
theorem dL_law_797 : decode cL_law 797 = .ok (.i2l, 1) := by decide +kernel
theorem dL_law_798 : decode cL_law 798 = .ok (.lcmp, 1) := by decide +kernel
theorem dL_law_799 : decode cL_law 799 = .ok (.ifCond .eq 5, 3) := by decide +kernel
theorem dL_law_802 : decode cL_law 802 = .ok (.iconst 0, 1) := by decide +kernel
theorem dL_law_803 : decode cL_law 803 = .ok (.ireturn, 1) := by decide +kernel
theorem dL_law_804 : decode cL_law 804 = .ok (.goto 591, 3) := by decide +kernel
theorem dL_law_807 : decode cL_law 807 = .ok (.aload_n 1, 1) := by decide +kernel
theorem dL_law_808 : decode cL_law 808 = .ok (.aload_n 0, 1) := by decide +kernel
theorem dL_law_809 : decode cL_law 809 = .ok (.iload 4, 2) := by decide +kernel
theorem dL_law_811 : decode cL_law 811 = .ok (.iconst 1, 1) := by decide +kernel
theorem dL_law_812 : decode cL_law 812 = .ok (.iadd, 1) := by decide +kernel
theorem dL_law_813 : decode cL_law 813 = .ok (.iaload, 1) := by decide +kernel
theorem dL_law_814 : decode cL_law 814 = .ok (.aload_n 0, 1) := by decide +kernel
theorem dL_law_815 : decode cL_law 815 = .ok (.iload 4, 2) := by decide +kernel
theorem dL_law_817 : decode cL_law 817 = .ok (.iconst 2, 1) := by decide +kernel
theorem dL_law_818 : decode cL_law 818 = .ok (.iadd, 1) := by decide +kernel
theorem dL_law_819 : decode cL_law 819 = .ok (.iaload, 1) := by decide +kernel
theorem dL_law_820 : decode cL_law 820 = .ok (.aload_n 0, 1) := by decide +kernel
theorem dL_law_821 : decode cL_law 821 = .ok (.iload 4, 2) := by decide +kernel
theorem dL_law_823 : decode cL_law 823 = .ok (.iconst 3, 1) := by decide +kernel
theorem dL_law_824 : decode cL_law 824 = .ok (.iadd, 1) := by decide +kernel
theorem dL_law_825 : decode cL_law 825 = .ok (.iaload, 1) := by decide +kernel
theorem dL_law_826 : decode cL_law 826 = .ok (.aload_n 3, 1) := by decide +kernel
theorem dL_law_827 : decode cL_law 827 = .ok (.invokestatic 116, 3) := by decide +kernel
theorem dL_law_830 : decode cL_law 830 = .ok (.istore 5, 2) := by decide +kernel
theorem dL_law_832 : decode cL_law 832 = .ok (.aload_n 2, 1) := by decide +kernel
theorem dL_law_833 : decode cL_law 833 = .ok (.aload_n 0, 1) := by decide +kernel
theorem dL_law_834 : decode cL_law 834 = .ok (.iload 4, 2) := by decide +kernel
theorem dL_law_836 : decode cL_law 836 = .ok (.iconst 1, 1) := by decide +kernel
theorem dL_law_837 : decode cL_law 837 = .ok (.iadd, 1) := by decide +kernel
theorem dL_law_838 : decode cL_law 838 = .ok (.iaload, 1) := by decide +kernel
theorem dL_law_839 : decode cL_law 839 = .ok (.aload_n 0, 1) := by decide +kernel
theorem dL_law_840 : decode cL_law 840 = .ok (.iload 4, 2) := by decide +kernel
theorem dL_law_842 : decode cL_law 842 = .ok (.iconst 2, 1) := by decide +kernel
theorem dL_law_843 : decode cL_law 843 = .ok (.iadd, 1) := by decide +kernel
theorem dL_law_844 : decode cL_law 844 = .ok (.iaload, 1) := by decide +kernel
theorem dL_law_845 : decode cL_law 845 = .ok (.aload_n 0, 1) := by decide +kernel
theorem dL_law_846 : decode cL_law 846 = .ok (.iload 4, 2) := by decide +kernel
theorem dL_law_848 : decode cL_law 848 = .ok (.iconst 3, 1) := by decide +kernel
theorem dL_law_849 : decode cL_law 849 = .ok (.iadd, 1) := by decide +kernel
theorem dL_law_850 : decode cL_law 850 = .ok (.iaload, 1) := by decide +kernel
theorem dL_law_851 : decode cL_law 851 = .ok (.invokevirtual 118, 3) := by decide +kernel
theorem dL_law_854 : decode cL_law 854 = .ok (.istore 6, 2) := by decide +kernel
theorem dL_law_856 : decode cL_law 856 = .ok (.aload_n 2, 1) := by decide +kernel
theorem dL_law_857 : decode cL_law 857 = .ok (.invokevirtual 84, 3) := by decide +kernel
theorem dL_law_860 : decode cL_law 860 = .ok (.iload 5, 2) := by decide +kernel
theorem dL_law_862 : decode cL_law 862 = .ok (.if_icmp .eq 5, 3) := by decide +kernel
theorem dL_law_865 : decode cL_law 865 = .ok (.iconst 0, 1) := by decide +kernel
theorem dL_law_866 : decode cL_law 866 = .ok (.ireturn, 1) := by decide +kernel
theorem dL_law_867 : decode cL_law 867 = .ok (.iload 5, 2) := by decide +kernel
theorem dL_law_869 : decode cL_law 869 = .ok (.ifCond .ne 15, 3) := by decide +kernel
theorem dL_law_872 : decode cL_law 872 = .ok (.aload_n 3, 1) := by decide +kernel
theorem dL_law_873 : decode cL_law 873 = .ok (.iconst 0, 1) := by decide +kernel
theorem dL_law_874 : decode cL_law 874 = .ok (.laload, 1) := by decide +kernel
theorem dL_law_875 : decode cL_law 875 = .ok (.iload 6, 2) := by decide +kernel
theorem dL_law_877 : decode cL_law 877 = .ok (.i2l, 1) := by decide +kernel
theorem dL_law_878 : decode cL_law 878 = .ok (.lcmp, 1) := by decide +kernel
theorem dL_law_879 : decode cL_law 879 = .ok (.ifCond .eq 5, 3) := by decide +kernel
theorem dL_law_882 : decode cL_law 882 = .ok (.iconst 0, 1) := by decide +kernel
theorem dL_law_883 : decode cL_law 883 = .ok (.ireturn, 1) := by decide +kernel
theorem dL_law_884 : decode cL_law 884 = .ok (.goto 511, 3) := by decide +kernel
theorem dL_law_887 : decode cL_law 887 = .ok (.aload_n 1, 1) := by decide +kernel
theorem dL_law_888 : decode cL_law 888 = .ok (.aload_n 0, 1) := by decide +kernel
theorem dL_law_889 : decode cL_law 889 = .ok (.iload 4, 2) := by decide +kernel
theorem dL_law_891 : decode cL_law 891 = .ok (.iconst 1, 1) := by decide +kernel
theorem dL_law_892 : decode cL_law 892 = .ok (.iadd, 1) := by decide +kernel
theorem dL_law_893 : decode cL_law 893 = .ok (.iaload, 1) := by decide +kernel
theorem dL_law_894 : decode cL_law 894 = .ok (.aload_n 0, 1) := by decide +kernel
theorem dL_law_895 : decode cL_law 895 = .ok (.iload 4, 2) := by decide +kernel
theorem dL_law_897 : decode cL_law 897 = .ok (.iconst 2, 1) := by decide +kernel
theorem dL_law_898 : decode cL_law 898 = .ok (.iadd, 1) := by decide +kernel
theorem dL_law_899 : decode cL_law 899 = .ok (.iaload, 1) := by decide +kernel
theorem dL_law_900 : decode cL_law 900 = .ok (.aload_n 3, 1) := by decide +kernel
theorem dL_law_901 : decode cL_law 901 = .ok (.invokestatic 119, 3) := by decide +kernel
theorem dL_law_904 : decode cL_law 904 = .ok (.istore 5, 2) := by decide +kernel
end
section
theorem dL_law_906 : decode cL_law 906 = .ok (.aload_n 2, 1) := by decide +kernel
theorem dL_law_907 : decode cL_law 907 = .ok (.aload_n 0, 1) := by decide +kernel
theorem dL_law_908 : decode cL_law 908 = .ok (.iload 4, 2) := by decide +kernel
theorem dL_law_910 : decode cL_law 910 = .ok (.iconst 1, 1) := by decide +kernel
theorem dL_law_911 : decode cL_law 911 = .ok (.iadd, 1) := by decide +kernel
theorem dL_law_912 : decode cL_law 912 = .ok (.iaload, 1) := by decide +kernel
theorem dL_law_913 : decode cL_law 913 = .ok (.aload_n 0, 1) := by decide +kernel
theorem dL_law_914 : decode cL_law 914 = .ok (.iload 4, 2) := by decide +kernel
theorem dL_law_916 : decode cL_law 916 = .ok (.iconst 2, 1) := by decide +kernel
theorem dL_law_917 : decode cL_law 917 = .ok (.iadd, 1) := by decide +kernel
theorem dL_law_918 : decode cL_law 918 = .ok (.iaload, 1) := by decide +kernel
theorem dL_law_919 : decode cL_law 919 = .ok (.invokevirtual 121, 3) := by decide +kernel
theorem dL_law_922 : decode cL_law 922 = .ok (.istore 6, 2) := by decide +kernel
theorem dL_law_924 : decode cL_law 924 = .ok (.aload_n 2, 1) := by decide +kernel
theorem dL_law_925 : decode cL_law 925 = .ok (.invokevirtual 84, 3) := by decide +kernel
theorem dL_law_928 : decode cL_law 928 = .ok (.iload 5, 2) := by decide +kernel
theorem dL_law_930 : decode cL_law 930 = .ok (.if_icmp .eq 5, 3) := by decide +kernel
theorem dL_law_933 : decode cL_law 933 = .ok (.iconst 0, 1) := by decide +kernel
theorem dL_law_934 : decode cL_law 934 = .ok (.ireturn, 1) := by decide +kernel
theorem dL_law_935 : decode cL_law 935 = .ok (.iload 5, 2) := by decide +kernel
theorem dL_law_937 : decode cL_law 937 = .ok (.ifCond .ne 15, 3) := by decide +kernel
theorem dL_law_940 : decode cL_law 940 = .ok (.aload_n 3, 1) := by decide +kernel
theorem dL_law_941 : decode cL_law 941 = .ok (.iconst 0, 1) := by decide +kernel
theorem dL_law_942 : decode cL_law 942 = .ok (.laload, 1) := by decide +kernel
theorem dL_law_943 : decode cL_law 943 = .ok (.iload 6, 2) := by decide +kernel
theorem dL_law_945 : decode cL_law 945 = .ok (.i2l, 1) := by decide +kernel
theorem dL_law_946 : decode cL_law 946 = .ok (.lcmp, 1) := by decide +kernel
theorem dL_law_947 : decode cL_law 947 = .ok (.ifCond .eq 5, 3) := by decide +kernel
theorem dL_law_950 : decode cL_law 950 = .ok (.iconst 0, 1) := by decide +kernel
theorem dL_law_951 : decode cL_law 951 = .ok (.ireturn, 1) := by decide +kernel
theorem dL_law_952 : decode cL_law 952 = .ok (.goto 443, 3) := by decide +kernel
theorem dL_law_955 : decode cL_law 955 = .ok (.aload_n 1, 1) := by decide +kernel
theorem dL_law_956 : decode cL_law 956 = .ok (.aload_n 0, 1) := by decide +kernel
theorem dL_law_957 : decode cL_law 957 = .ok (.iload 4, 2) := by decide +kernel
theorem dL_law_959 : decode cL_law 959 = .ok (.iconst 1, 1) := by decide +kernel
theorem dL_law_960 : decode cL_law 960 = .ok (.iadd, 1) := by decide +kernel
theorem dL_law_961 : decode cL_law 961 = .ok (.iaload, 1) := by decide +kernel
theorem dL_law_962 : decode cL_law 962 = .ok (.aload_n 3, 1) := by decide +kernel
theorem dL_law_963 : decode cL_law 963 = .ok (.invokestatic 122, 3) := by decide +kernel
theorem dL_law_966 : decode cL_law 966 = .ok (.istore 5, 2) := by decide +kernel
theorem dL_law_968 : decode cL_law 968 = .ok (.aload_n 2, 1) := by decide +kernel
theorem dL_law_969 : decode cL_law 969 = .ok (.aload_n 0, 1) := by decide +kernel
theorem dL_law_970 : decode cL_law 970 = .ok (.iload 4, 2) := by decide +kernel
theorem dL_law_972 : decode cL_law 972 = .ok (.iconst 1, 1) := by decide +kernel
theorem dL_law_973 : decode cL_law 973 = .ok (.iadd, 1) := by decide +kernel
theorem dL_law_974 : decode cL_law 974 = .ok (.iaload, 1) := by decide +kernel
theorem dL_law_975 : decode cL_law 975 = .ok (.invokevirtual 124, 3) := by decide +kernel
theorem dL_law_978 : decode cL_law 978 = .ok (.istore 6, 2) := by decide +kernel
theorem dL_law_980 : decode cL_law 980 = .ok (.aload_n 2, 1) := by decide +kernel
theorem dL_law_981 : decode cL_law 981 = .ok (.invokevirtual 84, 3) := by decide +kernel
theorem dL_law_984 : decode cL_law 984 = .ok (.iload 5, 2) := by decide +kernel
theorem dL_law_986 : decode cL_law 986 = .ok (.if_icmp .eq 5, 3) := by decide +kernel
theorem dL_law_989 : decode cL_law 989 = .ok (.iconst 0, 1) := by decide +kernel
theorem dL_law_990 : decode cL_law 990 = .ok (.ireturn, 1) := by decide +kernel
theorem dL_law_991 : decode cL_law 991 = .ok (.iload 5, 2) := by decide +kernel
theorem dL_law_993 : decode cL_law 993 = .ok (.ifCond .ne 15, 3) := by decide +kernel
theorem dL_law_996 : decode cL_law 996 = .ok (.aload_n 3, 1) := by decide +kernel
theorem dL_law_997 : decode cL_law 997 = .ok (.iconst 0, 1) := by decide +kernel
theorem dL_law_998 : decode cL_law 998 = .ok (.laload, 1) := by decide +kernel
theorem dL_law_999 : decode cL_law 999 = .ok (.iload 6, 2) := by decide +kernel
theorem dL_law_1001 : decode cL_law 1001 = .ok (.i2l, 1) := by decide +kernel
theorem dL_law_1002 : decode cL_law 1002 = .ok (.lcmp, 1) := by decide +kernel
theorem dL_law_1003 : decode cL_law 1003 = .ok (.ifCond .eq 5, 3) := by decide +kernel
theorem dL_law_1006 : decode cL_law 1006 = .ok (.iconst 0, 1) := by decide +kernel
theorem dL_law_1007 : decode cL_law 1007 = .ok (.ireturn, 1) := by decide +kernel
theorem dL_law_1008 : decode cL_law 1008 = .ok (.goto 387, 3) := by decide +kernel
theorem dL_law_1011 : decode cL_law 1011 = .ok (.aload_n 1, 1) := by decide +kernel
theorem dL_law_1012 : decode cL_law 1012 = .ok (.aload_n 0, 1) := by decide +kernel
theorem dL_law_1013 : decode cL_law 1013 = .ok (.iload 4, 2) := by decide +kernel
theorem dL_law_1015 : decode cL_law 1015 = .ok (.iconst 1, 1) := by decide +kernel
theorem dL_law_1016 : decode cL_law 1016 = .ok (.iadd, 1) := by decide +kernel
theorem dL_law_1017 : decode cL_law 1017 = .ok (.iaload, 1) := by decide +kernel
theorem dL_law_1018 : decode cL_law 1018 = .ok (.aload_n 3, 1) := by decide +kernel
theorem dL_law_1019 : decode cL_law 1019 = .ok (.invokestatic 125, 3) := by decide +kernel
theorem dL_law_1022 : decode cL_law 1022 = .ok (.istore 5, 2) := by decide +kernel
theorem dL_law_1024 : decode cL_law 1024 = .ok (.aload_n 2, 1) := by decide +kernel
theorem dL_law_1025 : decode cL_law 1025 = .ok (.aload_n 0, 1) := by decide +kernel
theorem dL_law_1026 : decode cL_law 1026 = .ok (.iload 4, 2) := by decide +kernel
theorem dL_law_1028 : decode cL_law 1028 = .ok (.iconst 1, 1) := by decide +kernel
theorem dL_law_1029 : decode cL_law 1029 = .ok (.iadd, 1) := by decide +kernel
theorem dL_law_1030 : decode cL_law 1030 = .ok (.iaload, 1) := by decide +kernel
theorem dL_law_1031 : decode cL_law 1031 = .ok (.invokevirtual 127, 3) := by decide +kernel
theorem dL_law_1034 : decode cL_law 1034 = .ok (.istore 6, 2) := by decide +kernel
theorem dL_law_1036 : decode cL_law 1036 = .ok (.aload_n 2, 1) := by decide +kernel
theorem dL_law_1037 : decode cL_law 1037 = .ok (.invokevirtual 84, 3) := by decide +kernel
theorem dL_law_1040 : decode cL_law 1040 = .ok (.iload 5, 2) := by decide +kernel
theorem dL_law_1042 : decode cL_law 1042 = .ok (.if_icmp .eq 5, 3) := by decide +kernel
theorem dL_law_1045 : decode cL_law 1045 = .ok (.iconst 0, 1) := by decide +kernel
theorem dL_law_1046 : decode cL_law 1046 = .ok (.ireturn, 1) := by decide +kernel
theorem dL_law_1047 : decode cL_law 1047 = .ok (.iload 5, 2) := by decide +kernel
theorem dL_law_1049 : decode cL_law 1049 = .ok (.ifCond .ne 15, 3) := by decide +kernel
theorem dL_law_1052 : decode cL_law 1052 = .ok (.aload_n 3, 1) := by decide +kernel
theorem dL_law_1053 : decode cL_law 1053 = .ok (.iconst 0, 1) := by decide +kernel
theorem dL_law_1054 : decode cL_law 1054 = .ok (.laload, 1) := by decide +kernel
theorem dL_law_1055 : decode cL_law 1055 = .ok (.iload 6, 2) := by decide +kernel
theorem dL_law_1057 : decode cL_law 1057 = .ok (.i2l, 1) := by decide +kernel
theorem dL_law_1058 : decode cL_law 1058 = .ok (.lcmp, 1) := by decide +kernel
theorem dL_law_1059 : decode cL_law 1059 = .ok (.ifCond .eq 5, 3) := by decide +kernel
theorem dL_law_1062 : decode cL_law 1062 = .ok (.iconst 0, 1) := by decide +kernel
theorem dL_law_1063 : decode cL_law 1063 = .ok (.ireturn, 1) := by decide +kernel
theorem dL_law_1064 : decode cL_law 1064 = .ok (.goto 331, 3) := by decide +kernel
theorem dL_law_1067 : decode cL_law 1067 = .ok (.aload_n 1, 1) := by decide +kernel
theorem dL_law_1068 : decode cL_law 1068 = .ok (.aload_n 0, 1) := by decide +kernel
theorem dL_law_1069 : decode cL_law 1069 = .ok (.iload 4, 2) := by decide +kernel
theorem dL_law_1071 : decode cL_law 1071 = .ok (.iconst 1, 1) := by decide +kernel
theorem dL_law_1072 : decode cL_law 1072 = .ok (.iadd, 1) := by decide +kernel
theorem dL_law_1073 : decode cL_law 1073 = .ok (.iaload, 1) := by decide +kernel
theorem dL_law_1074 : decode cL_law 1074 = .ok (.aload_n 0, 1) := by decide +kernel
theorem dL_law_1075 : decode cL_law 1075 = .ok (.iload 4, 2) := by decide +kernel
theorem dL_law_1077 : decode cL_law 1077 = .ok (.iconst 2, 1) := by decide +kernel
end
section
theorem dL_law_1078 : decode cL_law 1078 = .ok (.iadd, 1) := by decide +kernel
theorem dL_law_1079 : decode cL_law 1079 = .ok (.iaload, 1) := by decide +kernel
theorem dL_law_1080 : decode cL_law 1080 = .ok (.aload_n 3, 1) := by decide +kernel
theorem dL_law_1081 : decode cL_law 1081 = .ok (.invokestatic 128, 3) := by decide +kernel
theorem dL_law_1084 : decode cL_law 1084 = .ok (.istore 5, 2) := by decide +kernel
theorem dL_law_1086 : decode cL_law 1086 = .ok (.aload_n 2, 1) := by decide +kernel
theorem dL_law_1087 : decode cL_law 1087 = .ok (.aload_n 0, 1) := by decide +kernel
theorem dL_law_1088 : decode cL_law 1088 = .ok (.iload 4, 2) := by decide +kernel
theorem dL_law_1090 : decode cL_law 1090 = .ok (.iconst 1, 1) := by decide +kernel
theorem dL_law_1091 : decode cL_law 1091 = .ok (.iadd, 1) := by decide +kernel
theorem dL_law_1092 : decode cL_law 1092 = .ok (.iaload, 1) := by decide +kernel
theorem dL_law_1093 : decode cL_law 1093 = .ok (.aload_n 0, 1) := by decide +kernel
theorem dL_law_1094 : decode cL_law 1094 = .ok (.iload 4, 2) := by decide +kernel
theorem dL_law_1096 : decode cL_law 1096 = .ok (.iconst 2, 1) := by decide +kernel
theorem dL_law_1097 : decode cL_law 1097 = .ok (.iadd, 1) := by decide +kernel
theorem dL_law_1098 : decode cL_law 1098 = .ok (.iaload, 1) := by decide +kernel
theorem dL_law_1099 : decode cL_law 1099 = .ok (.invokevirtual 130, 3) := by decide +kernel
theorem dL_law_1102 : decode cL_law 1102 = .ok (.istore 6, 2) := by decide +kernel
theorem dL_law_1104 : decode cL_law 1104 = .ok (.aload_n 2, 1) := by decide +kernel
theorem dL_law_1105 : decode cL_law 1105 = .ok (.invokevirtual 84, 3) := by decide +kernel
theorem dL_law_1108 : decode cL_law 1108 = .ok (.iload 5, 2) := by decide +kernel
theorem dL_law_1110 : decode cL_law 1110 = .ok (.if_icmp .eq 5, 3) := by decide +kernel
theorem dL_law_1113 : decode cL_law 1113 = .ok (.iconst 0, 1) := by decide +kernel
theorem dL_law_1114 : decode cL_law 1114 = .ok (.ireturn, 1) := by decide +kernel
theorem dL_law_1115 : decode cL_law 1115 = .ok (.iload 5, 2) := by decide +kernel
theorem dL_law_1117 : decode cL_law 1117 = .ok (.ifCond .ne 15, 3) := by decide +kernel
theorem dL_law_1120 : decode cL_law 1120 = .ok (.aload_n 3, 1) := by decide +kernel
theorem dL_law_1121 : decode cL_law 1121 = .ok (.iconst 0, 1) := by decide +kernel
theorem dL_law_1122 : decode cL_law 1122 = .ok (.laload, 1) := by decide +kernel
theorem dL_law_1123 : decode cL_law 1123 = .ok (.iload 6, 2) := by decide +kernel
theorem dL_law_1125 : decode cL_law 1125 = .ok (.i2l, 1) := by decide +kernel
theorem dL_law_1126 : decode cL_law 1126 = .ok (.lcmp, 1) := by decide +kernel
theorem dL_law_1127 : decode cL_law 1127 = .ok (.ifCond .eq 5, 3) := by decide +kernel
theorem dL_law_1130 : decode cL_law 1130 = .ok (.iconst 0, 1) := by decide +kernel
theorem dL_law_1131 : decode cL_law 1131 = .ok (.ireturn, 1) := by decide +kernel
theorem dL_law_1132 : decode cL_law 1132 = .ok (.goto 263, 3) := by decide +kernel
theorem dL_law_1135 : decode cL_law 1135 = .ok (.aload_n 1, 1) := by decide +kernel
theorem dL_law_1136 : decode cL_law 1136 = .ok (.aload_n 0, 1) := by decide +kernel
theorem dL_law_1137 : decode cL_law 1137 = .ok (.iload 4, 2) := by decide +kernel
theorem dL_law_1139 : decode cL_law 1139 = .ok (.iconst 1, 1) := by decide +kernel
theorem dL_law_1140 : decode cL_law 1140 = .ok (.iadd, 1) := by decide +kernel
theorem dL_law_1141 : decode cL_law 1141 = .ok (.iaload, 1) := by decide +kernel
theorem dL_law_1142 : decode cL_law 1142 = .ok (.aload_n 0, 1) := by decide +kernel
theorem dL_law_1143 : decode cL_law 1143 = .ok (.iload 4, 2) := by decide +kernel
theorem dL_law_1145 : decode cL_law 1145 = .ok (.iconst 2, 1) := by decide +kernel
theorem dL_law_1146 : decode cL_law 1146 = .ok (.iadd, 1) := by decide +kernel
theorem dL_law_1147 : decode cL_law 1147 = .ok (.iaload, 1) := by decide +kernel
theorem dL_law_1148 : decode cL_law 1148 = .ok (.aload_n 3, 1) := by decide +kernel
theorem dL_law_1149 : decode cL_law 1149 = .ok (.invokestatic 131, 3) := by decide +kernel
theorem dL_law_1152 : decode cL_law 1152 = .ok (.istore 5, 2) := by decide +kernel
theorem dL_law_1154 : decode cL_law 1154 = .ok (.aload_n 2, 1) := by decide +kernel
theorem dL_law_1155 : decode cL_law 1155 = .ok (.aload_n 0, 1) := by decide +kernel
theorem dL_law_1156 : decode cL_law 1156 = .ok (.iload 4, 2) := by decide +kernel
theorem dL_law_1158 : decode cL_law 1158 = .ok (.iconst 1, 1) := by decide +kernel
theorem dL_law_1159 : decode cL_law 1159 = .ok (.iadd, 1) := by decide +kernel
theorem dL_law_1160 : decode cL_law 1160 = .ok (.iaload, 1) := by decide +kernel
theorem dL_law_1161 : decode cL_law 1161 = .ok (.aload_n 0, 1) := by decide +kernel
theorem dL_law_1162 : decode cL_law 1162 = .ok (.iload 4, 2) := by decide +kernel
theorem dL_law_1164 : decode cL_law 1164 = .ok (.iconst 2, 1) := by decide +kernel
theorem dL_law_1165 : decode cL_law 1165 = .ok (.iadd, 1) := by decide +kernel
theorem dL_law_1166 : decode cL_law 1166 = .ok (.iaload, 1) := by decide +kernel
theorem dL_law_1167 : decode cL_law 1167 = .ok (.invokevirtual 133, 3) := by decide +kernel
theorem dL_law_1170 : decode cL_law 1170 = .ok (.istore 6, 2) := by decide +kernel
theorem dL_law_1172 : decode cL_law 1172 = .ok (.aload_n 2, 1) := by decide +kernel
theorem dL_law_1173 : decode cL_law 1173 = .ok (.invokevirtual 84, 3) := by decide +kernel
theorem dL_law_1176 : decode cL_law 1176 = .ok (.iload 5, 2) := by decide +kernel
theorem dL_law_1178 : decode cL_law 1178 = .ok (.if_icmp .eq 5, 3) := by decide +kernel
theorem dL_law_1181 : decode cL_law 1181 = .ok (.iconst 0, 1) := by decide +kernel
theorem dL_law_1182 : decode cL_law 1182 = .ok (.ireturn, 1) := by decide +kernel
theorem dL_law_1183 : decode cL_law 1183 = .ok (.iload 5, 2) := by decide +kernel
theorem dL_law_1185 : decode cL_law 1185 = .ok (.ifCond .ne 15, 3) := by decide +kernel
theorem dL_law_1188 : decode cL_law 1188 = .ok (.aload_n 3, 1) := by decide +kernel
theorem dL_law_1189 : decode cL_law 1189 = .ok (.iconst 0, 1) := by decide +kernel
theorem dL_law_1190 : decode cL_law 1190 = .ok (.laload, 1) := by decide +kernel
theorem dL_law_1191 : decode cL_law 1191 = .ok (.iload 6, 2) := by decide +kernel
theorem dL_law_1193 : decode cL_law 1193 = .ok (.i2l, 1) := by decide +kernel
theorem dL_law_1194 : decode cL_law 1194 = .ok (.lcmp, 1) := by decide +kernel
theorem dL_law_1195 : decode cL_law 1195 = .ok (.ifCond .eq 5, 3) := by decide +kernel
theorem dL_law_1198 : decode cL_law 1198 = .ok (.iconst 0, 1) := by decide +kernel
theorem dL_law_1199 : decode cL_law 1199 = .ok (.ireturn, 1) := by decide +kernel
theorem dL_law_1200 : decode cL_law 1200 = .ok (.goto 195, 3) := by decide +kernel
theorem dL_law_1203 : decode cL_law 1203 = .ok (.aload_n 1, 1) := by decide +kernel
theorem dL_law_1204 : decode cL_law 1204 = .ok (.aload_n 0, 1) := by decide +kernel
theorem dL_law_1205 : decode cL_law 1205 = .ok (.iload 4, 2) := by decide +kernel
theorem dL_law_1207 : decode cL_law 1207 = .ok (.iconst 1, 1) := by decide +kernel
theorem dL_law_1208 : decode cL_law 1208 = .ok (.iadd, 1) := by decide +kernel
theorem dL_law_1209 : decode cL_law 1209 = .ok (.iaload, 1) := by decide +kernel
theorem dL_law_1210 : decode cL_law 1210 = .ok (.aload_n 0, 1) := by decide +kernel
theorem dL_law_1211 : decode cL_law 1211 = .ok (.iload 4, 2) := by decide +kernel
theorem dL_law_1213 : decode cL_law 1213 = .ok (.iconst 2, 1) := by decide +kernel
theorem dL_law_1214 : decode cL_law 1214 = .ok (.iadd, 1) := by decide +kernel
theorem dL_law_1215 : decode cL_law 1215 = .ok (.iaload, 1) := by decide +kernel
theorem dL_law_1216 : decode cL_law 1216 = .ok (.aload_n 3, 1) := by decide +kernel
theorem dL_law_1217 : decode cL_law 1217 = .ok (.invokestatic 134, 3) := by decide +kernel
theorem dL_law_1220 : decode cL_law 1220 = .ok (.istore 5, 2) := by decide +kernel
theorem dL_law_1222 : decode cL_law 1222 = .ok (.aload_n 2, 1) := by decide +kernel
theorem dL_law_1223 : decode cL_law 1223 = .ok (.aload_n 0, 1) := by decide +kernel
theorem dL_law_1224 : decode cL_law 1224 = .ok (.iload 4, 2) := by decide +kernel
theorem dL_law_1226 : decode cL_law 1226 = .ok (.iconst 1, 1) := by decide +kernel
theorem dL_law_1227 : decode cL_law 1227 = .ok (.iadd, 1) := by decide +kernel
theorem dL_law_1228 : decode cL_law 1228 = .ok (.iaload, 1) := by decide +kernel
theorem dL_law_1229 : decode cL_law 1229 = .ok (.aload_n 0, 1) := by decide +kernel
theorem dL_law_1230 : decode cL_law 1230 = .ok (.iload 4, 2) := by decide +kernel
theorem dL_law_1232 : decode cL_law 1232 = .ok (.iconst 2, 1) := by decide +kernel
theorem dL_law_1233 : decode cL_law 1233 = .ok (.iadd, 1) := by decide +kernel
theorem dL_law_1234 : decode cL_law 1234 = .ok (.iaload, 1) := by decide +kernel
theorem dL_law_1235 : decode cL_law 1235 = .ok (.invokevirtual 136, 3) := by decide +kernel
theorem dL_law_1238 : decode cL_law 1238 = .ok (.istore 6, 2) := by decide +kernel
theorem dL_law_1240 : decode cL_law 1240 = .ok (.aload_n 2, 1) := by decide +kernel
theorem dL_law_1241 : decode cL_law 1241 = .ok (.invokevirtual 84, 3) := by decide +kernel
end
section
theorem dL_law_1244 : decode cL_law 1244 = .ok (.iload 5, 2) := by decide +kernel
theorem dL_law_1246 : decode cL_law 1246 = .ok (.if_icmp .eq 5, 3) := by decide +kernel
theorem dL_law_1249 : decode cL_law 1249 = .ok (.iconst 0, 1) := by decide +kernel
theorem dL_law_1250 : decode cL_law 1250 = .ok (.ireturn, 1) := by decide +kernel
theorem dL_law_1251 : decode cL_law 1251 = .ok (.iload 5, 2) := by decide +kernel
theorem dL_law_1253 : decode cL_law 1253 = .ok (.ifCond .ne 15, 3) := by decide +kernel
theorem dL_law_1256 : decode cL_law 1256 = .ok (.aload_n 3, 1) := by decide +kernel
theorem dL_law_1257 : decode cL_law 1257 = .ok (.iconst 0, 1) := by decide +kernel
theorem dL_law_1258 : decode cL_law 1258 = .ok (.laload, 1) := by decide +kernel
theorem dL_law_1259 : decode cL_law 1259 = .ok (.iload 6, 2) := by decide +kernel
theorem dL_law_1261 : decode cL_law 1261 = .ok (.i2l, 1) := by decide +kernel
theorem dL_law_1262 : decode cL_law 1262 = .ok (.lcmp, 1) := by decide +kernel
theorem dL_law_1263 : decode cL_law 1263 = .ok (.ifCond .eq 5, 3) := by decide +kernel
theorem dL_law_1266 : decode cL_law 1266 = .ok (.iconst 0, 1) := by decide +kernel
theorem dL_law_1267 : decode cL_law 1267 = .ok (.ireturn, 1) := by decide +kernel
theorem dL_law_1268 : decode cL_law 1268 = .ok (.goto 127, 3) := by decide +kernel
theorem dL_law_1271 : decode cL_law 1271 = .ok (.aload_n 1, 1) := by decide +kernel
theorem dL_law_1272 : decode cL_law 1272 = .ok (.aload_n 0, 1) := by decide +kernel
theorem dL_law_1273 : decode cL_law 1273 = .ok (.iload 4, 2) := by decide +kernel
theorem dL_law_1275 : decode cL_law 1275 = .ok (.iconst 1, 1) := by decide +kernel
theorem dL_law_1276 : decode cL_law 1276 = .ok (.iadd, 1) := by decide +kernel
theorem dL_law_1277 : decode cL_law 1277 = .ok (.iaload, 1) := by decide +kernel
theorem dL_law_1278 : decode cL_law 1278 = .ok (.aload_n 0, 1) := by decide +kernel
theorem dL_law_1279 : decode cL_law 1279 = .ok (.iload 4, 2) := by decide +kernel
theorem dL_law_1281 : decode cL_law 1281 = .ok (.iconst 2, 1) := by decide +kernel
theorem dL_law_1282 : decode cL_law 1282 = .ok (.iadd, 1) := by decide +kernel
theorem dL_law_1283 : decode cL_law 1283 = .ok (.iaload, 1) := by decide +kernel
theorem dL_law_1284 : decode cL_law 1284 = .ok (.aload_n 3, 1) := by decide +kernel
theorem dL_law_1285 : decode cL_law 1285 = .ok (.invokestatic 137, 3) := by decide +kernel
theorem dL_law_1288 : decode cL_law 1288 = .ok (.istore 5, 2) := by decide +kernel
theorem dL_law_1290 : decode cL_law 1290 = .ok (.aload_n 2, 1) := by decide +kernel
theorem dL_law_1291 : decode cL_law 1291 = .ok (.aload_n 0, 1) := by decide +kernel
theorem dL_law_1292 : decode cL_law 1292 = .ok (.iload 4, 2) := by decide +kernel
theorem dL_law_1294 : decode cL_law 1294 = .ok (.iconst 1, 1) := by decide +kernel
theorem dL_law_1295 : decode cL_law 1295 = .ok (.iadd, 1) := by decide +kernel
theorem dL_law_1296 : decode cL_law 1296 = .ok (.iaload, 1) := by decide +kernel
theorem dL_law_1297 : decode cL_law 1297 = .ok (.aload_n 0, 1) := by decide +kernel
theorem dL_law_1298 : decode cL_law 1298 = .ok (.iload 4, 2) := by decide +kernel
theorem dL_law_1300 : decode cL_law 1300 = .ok (.iconst 2, 1) := by decide +kernel
theorem dL_law_1301 : decode cL_law 1301 = .ok (.iadd, 1) := by decide +kernel
theorem dL_law_1302 : decode cL_law 1302 = .ok (.iaload, 1) := by decide +kernel
theorem dL_law_1303 : decode cL_law 1303 = .ok (.invokevirtual 139, 3) := by decide +kernel
theorem dL_law_1306 : decode cL_law 1306 = .ok (.istore 6, 2) := by decide +kernel
theorem dL_law_1308 : decode cL_law 1308 = .ok (.aload_n 2, 1) := by decide +kernel
theorem dL_law_1309 : decode cL_law 1309 = .ok (.invokevirtual 84, 3) := by decide +kernel
theorem dL_law_1312 : decode cL_law 1312 = .ok (.iload 5, 2) := by decide +kernel
theorem dL_law_1314 : decode cL_law 1314 = .ok (.if_icmp .eq 5, 3) := by decide +kernel
theorem dL_law_1317 : decode cL_law 1317 = .ok (.iconst 0, 1) := by decide +kernel
theorem dL_law_1318 : decode cL_law 1318 = .ok (.ireturn, 1) := by decide +kernel
theorem dL_law_1319 : decode cL_law 1319 = .ok (.iload 5, 2) := by decide +kernel
theorem dL_law_1321 : decode cL_law 1321 = .ok (.ifCond .ne 15, 3) := by decide +kernel
theorem dL_law_1324 : decode cL_law 1324 = .ok (.aload_n 3, 1) := by decide +kernel
theorem dL_law_1325 : decode cL_law 1325 = .ok (.iconst 0, 1) := by decide +kernel
theorem dL_law_1326 : decode cL_law 1326 = .ok (.laload, 1) := by decide +kernel
theorem dL_law_1327 : decode cL_law 1327 = .ok (.iload 6, 2) := by decide +kernel
theorem dL_law_1329 : decode cL_law 1329 = .ok (.i2l, 1) := by decide +kernel
theorem dL_law_1330 : decode cL_law 1330 = .ok (.lcmp, 1) := by decide +kernel
theorem dL_law_1331 : decode cL_law 1331 = .ok (.ifCond .eq 5, 3) := by decide +kernel
theorem dL_law_1334 : decode cL_law 1334 = .ok (.iconst 0, 1) := by decide +kernel
theorem dL_law_1335 : decode cL_law 1335 = .ok (.ireturn, 1) := by decide +kernel
theorem dL_law_1336 : decode cL_law 1336 = .ok (.goto 59, 3) := by decide +kernel
theorem dL_law_1339 : decode cL_law 1339 = .ok (.aload_n 1, 1) := by decide +kernel
theorem dL_law_1340 : decode cL_law 1340 = .ok (.aload_n 0, 1) := by decide +kernel
theorem dL_law_1341 : decode cL_law 1341 = .ok (.iload 4, 2) := by decide +kernel
theorem dL_law_1343 : decode cL_law 1343 = .ok (.iconst 1, 1) := by decide +kernel
theorem dL_law_1344 : decode cL_law 1344 = .ok (.iadd, 1) := by decide +kernel
theorem dL_law_1345 : decode cL_law 1345 = .ok (.iaload, 1) := by decide +kernel
theorem dL_law_1346 : decode cL_law 1346 = .ok (.aload_n 3, 1) := by decide +kernel
theorem dL_law_1347 : decode cL_law 1347 = .ok (.invokestatic 140, 3) := by decide +kernel
theorem dL_law_1350 : decode cL_law 1350 = .ok (.istore 5, 2) := by decide +kernel
theorem dL_law_1352 : decode cL_law 1352 = .ok (.aload_n 2, 1) := by decide +kernel
theorem dL_law_1353 : decode cL_law 1353 = .ok (.aload_n 0, 1) := by decide +kernel
theorem dL_law_1354 : decode cL_law 1354 = .ok (.iload 4, 2) := by decide +kernel
theorem dL_law_1356 : decode cL_law 1356 = .ok (.iconst 1, 1) := by decide +kernel
theorem dL_law_1357 : decode cL_law 1357 = .ok (.iadd, 1) := by decide +kernel
theorem dL_law_1358 : decode cL_law 1358 = .ok (.iaload, 1) := by decide +kernel
theorem dL_law_1359 : decode cL_law 1359 = .ok (.invokevirtual 142, 3) := by decide +kernel
theorem dL_law_1362 : decode cL_law 1362 = .ok (.istore 6, 2) := by decide +kernel
theorem dL_law_1364 : decode cL_law 1364 = .ok (.aload_n 2, 1) := by decide +kernel
theorem dL_law_1365 : decode cL_law 1365 = .ok (.invokevirtual 84, 3) := by decide +kernel
theorem dL_law_1368 : decode cL_law 1368 = .ok (.iload 5, 2) := by decide +kernel
theorem dL_law_1370 : decode cL_law 1370 = .ok (.if_icmp .eq 5, 3) := by decide +kernel
theorem dL_law_1373 : decode cL_law 1373 = .ok (.iconst 0, 1) := by decide +kernel
theorem dL_law_1374 : decode cL_law 1374 = .ok (.ireturn, 1) := by decide +kernel
theorem dL_law_1375 : decode cL_law 1375 = .ok (.iload 5, 2) := by decide +kernel
theorem dL_law_1377 : decode cL_law 1377 = .ok (.ifCond .ne 15, 3) := by decide +kernel
theorem dL_law_1380 : decode cL_law 1380 = .ok (.aload_n 3, 1) := by decide +kernel
theorem dL_law_1381 : decode cL_law 1381 = .ok (.iconst 0, 1) := by decide +kernel
theorem dL_law_1382 : decode cL_law 1382 = .ok (.laload, 1) := by decide +kernel
theorem dL_law_1383 : decode cL_law 1383 = .ok (.iload 6, 2) := by decide +kernel
theorem dL_law_1385 : decode cL_law 1385 = .ok (.i2l, 1) := by decide +kernel
theorem dL_law_1386 : decode cL_law 1386 = .ok (.lcmp, 1) := by decide +kernel
theorem dL_law_1387 : decode cL_law 1387 = .ok (.ifCond .eq 5, 3) := by decide +kernel
theorem dL_law_1390 : decode cL_law 1390 = .ok (.iconst 0, 1) := by decide +kernel
theorem dL_law_1391 : decode cL_law 1391 = .ok (.ireturn, 1) := by decide +kernel
theorem dL_law_1392 : decode cL_law 1392 = .ok (.goto 3, 3) := by decide +kernel
theorem dL_law_1395 : decode cL_law 1395 = .ok (.iinc 4 5, 3) := by decide +kernel
theorem dL_law_1398 : decode cL_law 1398 = .ok (.goto (-1375), 3) := by decide +kernel
theorem dL_law_1401 : decode cL_law 1401 = .ok (.iconst 1, 1) := by decide +kernel
theorem dL_law_1402 : decode cL_law 1402 = .ok (.ireturn, 1) := by decide +kernel
end
section
/-! ints by their numbers -/
def iI (z : Int) : Int32 := Int32.ofInt z
theorem iI_bv (z : Int) : (iI z).toBitVec = BitVec.ofInt 32 z := rfl
theorem iI_add (a b : Int) : iI a + iI b = iI (a + b) := by
  apply Int32.toBitVec_inj.mp
  show BitVec.ofInt 32 a + BitVec.ofInt 32 b = BitVec.ofInt 32 (a + b)
  rw [BitVec.ofInt_add]
theorem iI_mul (a b : Int) : iI a * iI b = iI (a * b) := by
  apply Int32.toBitVec_inj.mp
  show BitVec.ofInt 32 a * BitVec.ofInt 32 b = BitVec.ofInt 32 (a * b)
  rw [BitVec.ofInt_mul]
theorem iI_neg (a : Int) : -(iI a) = iI (-a) := by
  apply Int32.toBitVec_inj.mp
  show -(BitVec.ofInt 32 a) = BitVec.ofInt 32 (-a)
  rw [BitVec.ofInt_neg]
theorem iI_sub (a b : Int) : iI a - iI b = iI (a - b) := by
  have h := iI_add a (-b)
  rw [← iI_neg] at h
  rw [Int.sub_eq_add_neg, ← h, Int32.sub_eq_add_neg]
theorem iI_of (x : Int32) : iI x.toInt = x := Int32.ofInt_toInt x
theorem iI_toInt {z : Int} (h : -2147483648 ≤ z ∧ z < 2147483648) : (iI z).toInt = z := by
  have h2 : (iI z).toInt = (BitVec.ofInt 32 z).toInt := rfl
  rw [h2, BitVec.toInt_ofInt]
  rw [Int.bmod_def]
  omega
theorem iI_rg (x : Int32) : -2147483648 ≤ x.toInt ∧ x.toInt < 2147483648 := by
  have h1 := Int32.le_toInt x
  have h2 := Int32.toInt_lt x
  omega
theorem iI_lt {a b : Int} (ha : -2147483648 ≤ a ∧ a < 2147483648) (hb : -2147483648 ≤ b ∧ b < 2147483648) : iI a < iI b ↔ a < b := by
  rw [Int32.lt_iff_toInt_lt, iI_toInt ha, iI_toInt hb]
theorem iI_le {a b : Int} (ha : -2147483648 ≤ a ∧ a < 2147483648) (hb : -2147483648 ≤ b ∧ b < 2147483648) : iI a ≤ iI b ↔ a ≤ b := by
  rw [Int32.le_iff_toInt_le, iI_toInt ha, iI_toInt hb]
theorem iI_eq {a b : Int} (ha : -2147483648 ≤ a ∧ a < 2147483648) (hb : -2147483648 ≤ b ∧ b < 2147483648) : iI a = iI b ↔ a = b := by
  constructor
  · intro h
    have h2 : (iI a).toInt = (iI b).toInt := by rw [h]
    rwa [iI_toInt ha, iI_toInt hb] at h2
  · intro h; rw [h]
theorem iI_0 : iI 0 = 0 := by decide +kernel
theorem iI_lt0 {a : Int} (ha : -2147483648 ≤ a ∧ a < 2147483648) : iI a < 0 ↔ a < 0 := by
  rw [← iI_0]; exact iI_lt ha (by omega)
theorem iI_le0 {a : Int} (ha : -2147483648 ≤ a ∧ a < 2147483648) : iI a ≤ 0 ↔ a ≤ 0 := by
  rw [← iI_0]; exact iI_le ha (by omega)
theorem iI_ge0 {a : Int} (ha : -2147483648 ≤ a ∧ a < 2147483648) : 0 ≤ iI a ↔ 0 ≤ a := by
  rw [← iI_0]; exact iI_le (by omega) ha
theorem iI_eq0 {a : Int} (ha : -2147483648 ≤ a ∧ a < 2147483648) : iI a = 0 ↔ a = 0 := by
  rw [← iI_0]; exact iI_eq ha (by omega)
theorem iI_nat (k : Nat) : iI (k : Int) = nI k := by
  apply Int32.toBitVec_inj.mp
  show BitVec.ofInt 32 (k : Int) = BitVec.ofNat 32 k
  exact BitVec.ofInt_ofNat ..
theorem iI_in {z : Int} {k n : Nat} (hk : z = (k : Int)) (h : k < n) (hn : n < 2 ^ 31) : vp_in (iI z) n := by
  subst hk; rw [iI_nat]; exact vp_in_nI h hn
theorem iI_cl {z : Int} {k : Nat} (hk : z = (k : Int)) (h : k < 2 ^ 31) : (iI z).toNatClampNeg = k := by
  subst hk; rw [iI_nat]; exact nI_clamp h
def ia (f : Nat → Int) : Nat → Int32 := fun j => iI (f j)
def uI (f : Nat → Int) (k : Nat) (v : Int) : Nat → Int := fun j => if j = k then v else f j
theorem ia_upd (f : Nat → Int) (k : Nat) (v : Int) : upd (ia f) k (iI v) = ia (uI f k v) := by
  funext j
  simp only [upd, ia, uI]
  split <;> rfl
theorem uI_s (f : Nat → Int) (k : Nat) (v : Int) : uI f k v k = v := by simp [uI]
theorem uI_n {f : Nat → Int} {k j : Nat} {v : Int} (h : j ≠ k) : uI f k v j = f j := by simp [uI, h]
/-! the bits' operations, as numbers -/
def andI (a b : Int) : Int := (iI a &&& iI b).toInt
def orI (a b : Int) : Int := (iI a ||| iI b).toInt
def xorI (a b : Int) : Int := (iI a ^^^ iI b).toInt
def shlI (a b : Int) : Int := (iI a <<< (iI b &&& 31)).toInt
def shrI (a b : Int) : Int := (iI a >>> (iI b &&& 31)).toInt
def absI (a : Int) : Int := if 0 ≤ a then a else -a
def bI (P : Prop) [Decidable P] : Int := if P then 1 else 0
theorem bI_t {P : Prop} [Decidable P] (h : P) : bI P = 1 := if_pos h
theorem bI_f {P : Prop} [Decidable P] (h : ¬ P) : bI P = 0 := if_neg h
theorem bI_01 (P : Prop) [Decidable P] : bI P = 0 ∨ bI P = 1 := by unfold bI; split <;> simp
theorem bI_rg (P : Prop) [Decidable P] : -2147483648 ≤ bI P ∧ bI P < 2147483648 := by rcases bI_01 P with h | h <;> rw [h] <;> omega
theorem bI_c {P Q : Prop} [Decidable P] [Decidable Q] (h : P ↔ Q) : bI P = bI Q := by unfold bI; by_cases q : P <;> simp [q, h.mp, ← h]
theorem bI_0 {P : Prop} [Decidable P] : bI P = 0 ↔ ¬ P := by unfold bI; split <;> simp_all
theorem lv_to {ls : Array Slot} {nL : Nat} {a b : List (Nat × Value)} (h : lv_has ls nL a) (e : a = b) : lv_has ls nL b := e ▸ h
/-! loops -/
theorem lp_up {P : Nat → Prop} (n : Nat) (he : P n) (hs : ∀ i, i < n → P (i + 1) → P i) : ∀ i, i ≤ n → P i := by
  intro i hi
  induction h : n - i generalizing i with
  | zero => have : i = n := by omega
            rw [this]; exact he
  | succ k ih => exact hs i (by omega) (ih (i + 1) (by omega) (by omega))
section KIT
variable {p : Program} {l : Launch} {e : Env} {R : Room} {s : State} {m : MethodId} {args : Array Value} {below : List Frame} {meth : Method} {c : Code} {H : Heap} {locs : List Loc} {cells slots : Nat} {Q : State → Prop}
variable {cc : ByteArray} {pc : Nat} {ls : Array Slot} {rest : List Value} {nL : Nat} {Ts : List Cond} {own : String}
theorem k_iconst (F : CallFix p m c cc nL s args Ts own) {n : Int} (hdg : decode cc pc = .ok (.iconst n, 1)) (k : W p l e R s m args below meth c H locs cells slots Q (F0 m (pc + 1) ls (.int (iI n) :: rest))) : W p l e R s m args below meth c H locs cells slots Q (F0 m pc ls rest) :=
  lv_iconst F.1 F.2.1 hdg rfl k
theorem k_bipush (F : CallFix p m c cc nL s args Ts own) {n : Int} (hdg : decode cc pc = .ok (.bipush n, 2)) (hn : (Int8.ofInt n).toInt32 = iI n) (k : W p l e R s m args below meth c H locs cells slots Q (F0 m (pc + 2) ls (.int (iI n) :: rest))) : W p l e R s m args below meth c H locs cells slots Q (F0 m pc ls rest) :=
  lv_bipush F.1 F.2.1 hdg hn k
theorem k_sipush (F : CallFix p m c cc nL s args Ts own) {n : Int} (hdg : decode cc pc = .ok (.sipush n, 3)) (hn : (Int16.ofInt n).toInt32 = iI n) (k : W p l e R s m args below meth c H locs cells slots Q (F0 m (pc + 3) ls (.int (iI n) :: rest))) : W p l e R s m args below meth c H locs cells slots Q (F0 m pc ls rest) :=
  lv_sipush F.1 F.2.1 hdg hn k
theorem k_iadd (F : CallFix p m c cc nL s args Ts own) {a b z : Int} (hz : a + b = z) (hdg : decode cc pc = .ok (.iadd, 1)) (k : W p l e R s m args below meth c H locs cells slots Q (F0 m (pc + 1) ls (.int (iI z) :: rest))) : W p l e R s m args below meth c H locs cells slots Q (F0 m pc ls (.int (iI b) :: .int (iI a) :: rest)) :=
  lv_iadd F.1 F.2.1 hdg (by rw [iI_add, hz]; exact k)
theorem k_isub (F : CallFix p m c cc nL s args Ts own) {a b z : Int} (hz : a - b = z) (hdg : decode cc pc = .ok (.isub, 1)) (k : W p l e R s m args below meth c H locs cells slots Q (F0 m (pc + 1) ls (.int (iI z) :: rest))) : W p l e R s m args below meth c H locs cells slots Q (F0 m pc ls (.int (iI b) :: .int (iI a) :: rest)) :=
  lv_isub F.1 F.2.1 hdg (by rw [iI_sub, hz]; exact k)
theorem k_imul (F : CallFix p m c cc nL s args Ts own) {a b z : Int} (hz : a * b = z) (hdg : decode cc pc = .ok (.imul, 1)) (k : W p l e R s m args below meth c H locs cells slots Q (F0 m (pc + 1) ls (.int (iI z) :: rest))) : W p l e R s m args below meth c H locs cells slots Q (F0 m pc ls (.int (iI b) :: .int (iI a) :: rest)) :=
  lv_imul F.1 F.2.1 hdg (by rw [iI_mul, hz]; exact k)
theorem k_ineg (F : CallFix p m c cc nL s args Ts own) {a z : Int} (hz : -a = z) (hdg : decode cc pc = .ok (.ineg, 1)) (k : W p l e R s m args below meth c H locs cells slots Q (F0 m (pc + 1) ls (.int (iI z) :: rest))) : W p l e R s m args below meth c H locs cells slots Q (F0 m pc ls (.int (iI a) :: rest)) :=
  lv_ineg F.1 F.2.1 hdg (by rw [iI_neg, hz]; exact k)
theorem k_irem (F : CallFix p m c cc nL s args Ts own) {a b z : Int} (hb : iI b ≠ 0) (hz : iI a - iI a / iI b * iI b = iI z) (hdg : decode cc pc = .ok (.irem, 1)) (k : W p l e R s m args below meth c H locs cells slots Q (F0 m (pc + 1) ls (.int (iI z) :: rest))) : W p l e R s m args below meth c H locs cells slots Q (F0 m pc ls (.int (iI b) :: .int (iI a) :: rest)) :=
  lv_irem F.1 F.2.1 hdg hb (by rw [hz]; exact k)
/-! conditions -/
theorem k_icmp_eq (F : CallFix p m c cc nL s args Ts own) {a b : Int} {off : Int} {tgt : Nat} (hdg : decode cc pc = .ok (.if_icmp .eq off, 3)) (ht : (pc : Int) + off = (tgt : Int)) (ha : -2147483648 ≤ a ∧ a < 2147483648) (hb : -2147483648 ≤ b ∧ b < 2147483648) (kt : a = b → W p l e R s m args below meth c H locs cells slots Q (F0 m tgt ls rest)) (kf : a ≠ b → W p l e R s m args below meth c H locs cells slots Q (F0 m (pc + 3) ls rest)) : W p l e R s m args below meth c H locs cells slots Q (F0 m pc ls (.int (iI b) :: .int (iI a) :: rest)) :=
  lv_icmp_eq F.1 F.2.1 hdg ht (fun h => kt ((iI_eq ha hb).mp h)) (fun h => kf (fun q => h ((iI_eq ha hb).mpr q)))
theorem k_icmp_ne (F : CallFix p m c cc nL s args Ts own) {a b : Int} {off : Int} {tgt : Nat} (hdg : decode cc pc = .ok (.if_icmp .ne off, 3)) (ht : (pc : Int) + off = (tgt : Int)) (ha : -2147483648 ≤ a ∧ a < 2147483648) (hb : -2147483648 ≤ b ∧ b < 2147483648) (kt : a ≠ b → W p l e R s m args below meth c H locs cells slots Q (F0 m tgt ls rest)) (kf : a = b → W p l e R s m args below meth c H locs cells slots Q (F0 m (pc + 3) ls rest)) : W p l e R s m args below meth c H locs cells slots Q (F0 m pc ls (.int (iI b) :: .int (iI a) :: rest)) :=
  lv_icmp_ne F.1 F.2.1 hdg ht (fun h => kt (fun q => h ((iI_eq ha hb).mpr q))) (fun h => kf ((iI_eq ha hb).mp h))
theorem k_icmp_lt (F : CallFix p m c cc nL s args Ts own) {a b : Int} {off : Int} {tgt : Nat} (hdg : decode cc pc = .ok (.if_icmp .lt off, 3)) (ht : (pc : Int) + off = (tgt : Int)) (ha : -2147483648 ≤ a ∧ a < 2147483648) (hb : -2147483648 ≤ b ∧ b < 2147483648) (kt : a < b → W p l e R s m args below meth c H locs cells slots Q (F0 m tgt ls rest)) (kf : b ≤ a → W p l e R s m args below meth c H locs cells slots Q (F0 m (pc + 3) ls rest)) : W p l e R s m args below meth c H locs cells slots Q (F0 m pc ls (.int (iI b) :: .int (iI a) :: rest)) :=
  lv_icmp_lt F.1 F.2.1 hdg ht (fun h => kt ((iI_lt ha hb).mp h)) (fun h => kf (by rcases Int.lt_or_le a b with q | q; exact absurd ((iI_lt ha hb).mpr q) h; exact q))
theorem k_icmp_ge (F : CallFix p m c cc nL s args Ts own) {a b : Int} {off : Int} {tgt : Nat} (hdg : decode cc pc = .ok (.if_icmp .ge off, 3)) (ht : (pc : Int) + off = (tgt : Int)) (ha : -2147483648 ≤ a ∧ a < 2147483648) (hb : -2147483648 ≤ b ∧ b < 2147483648) (kt : b ≤ a → W p l e R s m args below meth c H locs cells slots Q (F0 m tgt ls rest)) (kf : a < b → W p l e R s m args below meth c H locs cells slots Q (F0 m (pc + 3) ls rest)) : W p l e R s m args below meth c H locs cells slots Q (F0 m pc ls (.int (iI b) :: .int (iI a) :: rest)) :=
  lv_icmp_ge F.1 F.2.1 hdg ht (fun h => kt ((iI_le hb ha).mp h)) (fun h => kf (by rcases Int.lt_or_le a b with q | q; exact q; exact absurd ((iI_le hb ha).mpr q) h))
theorem k_icmp_gt (F : CallFix p m c cc nL s args Ts own) {a b : Int} {off : Int} {tgt : Nat} (hdg : decode cc pc = .ok (.if_icmp .gt off, 3)) (ht : (pc : Int) + off = (tgt : Int)) (ha : -2147483648 ≤ a ∧ a < 2147483648) (hb : -2147483648 ≤ b ∧ b < 2147483648) (kt : b < a → W p l e R s m args below meth c H locs cells slots Q (F0 m tgt ls rest)) (kf : a ≤ b → W p l e R s m args below meth c H locs cells slots Q (F0 m (pc + 3) ls rest)) : W p l e R s m args below meth c H locs cells slots Q (F0 m pc ls (.int (iI b) :: .int (iI a) :: rest)) :=
  lv_icmp_gt F.1 F.2.1 hdg ht (fun h => kt ((iI_lt hb ha).mp h)) (fun h => kf (by rcases Int.lt_or_le b a with q | q; exact absurd ((iI_lt hb ha).mpr q) h; exact q))
theorem k_icmp_le (F : CallFix p m c cc nL s args Ts own) {a b : Int} {off : Int} {tgt : Nat} (hdg : decode cc pc = .ok (.if_icmp .le off, 3)) (ht : (pc : Int) + off = (tgt : Int)) (ha : -2147483648 ≤ a ∧ a < 2147483648) (hb : -2147483648 ≤ b ∧ b < 2147483648) (kt : a ≤ b → W p l e R s m args below meth c H locs cells slots Q (F0 m tgt ls rest)) (kf : b < a → W p l e R s m args below meth c H locs cells slots Q (F0 m (pc + 3) ls rest)) : W p l e R s m args below meth c H locs cells slots Q (F0 m pc ls (.int (iI b) :: .int (iI a) :: rest)) :=
  lv_icmp_le F.1 F.2.1 hdg ht (fun h => kt ((iI_le ha hb).mp h)) (fun h => kf (by rcases Int.lt_or_le b a with q | q; exact q; exact absurd ((iI_le ha hb).mpr q) h))
theorem k_if_eq (F : CallFix p m c cc nL s args Ts own) {a : Int} {off : Int} {tgt : Nat} (hdg : decode cc pc = .ok (.ifCond .eq off, 3)) (ht : (pc : Int) + off = (tgt : Int)) (ha : -2147483648 ≤ a ∧ a < 2147483648) (kt : a = 0 → W p l e R s m args below meth c H locs cells slots Q (F0 m tgt ls rest)) (kf : a ≠ 0 → W p l e R s m args below meth c H locs cells slots Q (F0 m (pc + 3) ls rest)) : W p l e R s m args below meth c H locs cells slots Q (F0 m pc ls (.int (iI a) :: rest)) :=
  lv_if_eq F.1 F.2.1 hdg ht (fun h => kt ((iI_eq0 ha).mp h)) (fun h => kf (fun q => h ((iI_eq0 ha).mpr q)))
theorem k_if_ne (F : CallFix p m c cc nL s args Ts own) {a : Int} {off : Int} {tgt : Nat} (hdg : decode cc pc = .ok (.ifCond .ne off, 3)) (ht : (pc : Int) + off = (tgt : Int)) (ha : -2147483648 ≤ a ∧ a < 2147483648) (kt : a ≠ 0 → W p l e R s m args below meth c H locs cells slots Q (F0 m tgt ls rest)) (kf : a = 0 → W p l e R s m args below meth c H locs cells slots Q (F0 m (pc + 3) ls rest)) : W p l e R s m args below meth c H locs cells slots Q (F0 m pc ls (.int (iI a) :: rest)) :=
  lv_if_ne F.1 F.2.1 hdg ht (fun h => kt (fun q => h ((iI_eq0 ha).mpr q))) (fun h => kf ((iI_eq0 ha).mp h))
theorem k_if_lt (F : CallFix p m c cc nL s args Ts own) {a : Int} {off : Int} {tgt : Nat} (hdg : decode cc pc = .ok (.ifCond .lt off, 3)) (ht : (pc : Int) + off = (tgt : Int)) (ha : -2147483648 ≤ a ∧ a < 2147483648) (kt : a < 0 → W p l e R s m args below meth c H locs cells slots Q (F0 m tgt ls rest)) (kf : 0 ≤ a → W p l e R s m args below meth c H locs cells slots Q (F0 m (pc + 3) ls rest)) : W p l e R s m args below meth c H locs cells slots Q (F0 m pc ls (.int (iI a) :: rest)) :=
  lv_if_lt F.1 F.2.1 hdg ht (fun h => kt ((iI_lt0 ha).mp h)) (fun h => kf (by rcases Int.lt_or_le a 0 with q | q; exact absurd ((iI_lt0 ha).mpr q) h; exact q))
theorem k_if_ge (F : CallFix p m c cc nL s args Ts own) {a : Int} {off : Int} {tgt : Nat} (hdg : decode cc pc = .ok (.ifCond .ge off, 3)) (ht : (pc : Int) + off = (tgt : Int)) (ha : -2147483648 ≤ a ∧ a < 2147483648) (kt : 0 ≤ a → W p l e R s m args below meth c H locs cells slots Q (F0 m tgt ls rest)) (kf : a < 0 → W p l e R s m args below meth c H locs cells slots Q (F0 m (pc + 3) ls rest)) : W p l e R s m args below meth c H locs cells slots Q (F0 m pc ls (.int (iI a) :: rest)) :=
  lv_if_ge F.1 F.2.1 hdg ht (fun h => kt ((iI_ge0 ha).mp h)) (fun h => kf (by rcases Int.lt_or_le a 0 with q | q; exact q; exact absurd ((iI_ge0 ha).mpr q) h))
theorem k_if_gt (F : CallFix p m c cc nL s args Ts own) {a : Int} {off : Int} {tgt : Nat} (hdg : decode cc pc = .ok (.ifCond .gt off, 3)) (ht : (pc : Int) + off = (tgt : Int)) (ha : -2147483648 ≤ a ∧ a < 2147483648) (kt : 0 < a → W p l e R s m args below meth c H locs cells slots Q (F0 m tgt ls rest)) (kf : a ≤ 0 → W p l e R s m args below meth c H locs cells slots Q (F0 m (pc + 3) ls rest)) : W p l e R s m args below meth c H locs cells slots Q (F0 m pc ls (.int (iI a) :: rest)) :=
  lv_if_gt F.1 F.2.1 hdg ht (fun h => kt (by rcases Int.lt_or_le 0 a with q | q; exact q; exact absurd ((iI_le0 ha).mpr q) (fun z => absurd h (Int32.not_lt.mpr z)))) (fun h => kf (by rcases Int.lt_or_le 0 a with q | q; exact absurd (Int32.not_le.mp (fun z => absurd ((iI_le0 ha).mp z) (by omega))) h; exact q))
theorem k_if_le (F : CallFix p m c cc nL s args Ts own) {a : Int} {off : Int} {tgt : Nat} (hdg : decode cc pc = .ok (.ifCond .le off, 3)) (ht : (pc : Int) + off = (tgt : Int)) (ha : -2147483648 ≤ a ∧ a < 2147483648) (kt : a ≤ 0 → W p l e R s m args below meth c H locs cells slots Q (F0 m tgt ls rest)) (kf : 0 < a → W p l e R s m args below meth c H locs cells slots Q (F0 m (pc + 3) ls rest)) : W p l e R s m args below meth c H locs cells slots Q (F0 m pc ls (.int (iI a) :: rest)) :=
  lv_if_le F.1 F.2.1 hdg ht (fun h => kt ((iI_le0 ha).mp h)) (fun h => kf (by rcases Int.lt_or_le 0 a with q | q; exact q; exact absurd ((iI_le0 ha).mpr q) h))
theorem k_iand (F : CallFix p m c cc nL s args Ts own) {a b : Int} (hdg : decode cc pc = .ok (.iand, 1)) (k : W p l e R s m args below meth c H locs cells slots Q (F0 m (pc + 1) ls (.int (iI (andI a b)) :: rest))) : W p l e R s m args below meth c H locs cells slots Q (F0 m pc ls (.int (iI b) :: .int (iI a) :: rest)) :=
  lv_iand F.1 F.2.1 hdg (by rw [andI, iI_of] at k; exact k)
theorem k_ior (F : CallFix p m c cc nL s args Ts own) {a b : Int} (hdg : decode cc pc = .ok (.ior, 1)) (k : W p l e R s m args below meth c H locs cells slots Q (F0 m (pc + 1) ls (.int (iI (orI a b)) :: rest))) : W p l e R s m args below meth c H locs cells slots Q (F0 m pc ls (.int (iI b) :: .int (iI a) :: rest)) :=
  lv_ior F.1 F.2.1 hdg (by rw [orI, iI_of] at k; exact k)
theorem k_ixor (F : CallFix p m c cc nL s args Ts own) {a b : Int} (hdg : decode cc pc = .ok (.ixor, 1)) (k : W p l e R s m args below meth c H locs cells slots Q (F0 m (pc + 1) ls (.int (iI (xorI a b)) :: rest))) : W p l e R s m args below meth c H locs cells slots Q (F0 m pc ls (.int (iI b) :: .int (iI a) :: rest)) :=
  lv_ixor F.1 F.2.1 hdg (by rw [xorI, iI_of] at k; exact k)
theorem k_ishl (F : CallFix p m c cc nL s args Ts own) {a b : Int} (hdg : decode cc pc = .ok (.ishl, 1)) (k : W p l e R s m args below meth c H locs cells slots Q (F0 m (pc + 1) ls (.int (iI (shlI a b)) :: rest))) : W p l e R s m args below meth c H locs cells slots Q (F0 m pc ls (.int (iI b) :: .int (iI a) :: rest)) :=
  lv_ishl F.1 F.2.1 hdg (by rw [shlI, iI_of] at k; exact k)
theorem k_ishr (F : CallFix p m c cc nL s args Ts own) {a b : Int} (hdg : decode cc pc = .ok (.ishr, 1)) (k : W p l e R s m args below meth c H locs cells slots Q (F0 m (pc + 1) ls (.int (iI (shrI a b)) :: rest))) : W p l e R s m args below meth c H locs cells slots Q (F0 m pc ls (.int (iI b) :: .int (iI a) :: rest)) :=
  lv_ishr F.1 F.2.1 hdg (by rw [shrI, iI_of] at k; exact k)
theorem k_ifb_eq (F : CallFix p m c cc nL s args Ts own) {P : Prop} [Decidable P] {off : Int} {tgt : Nat} (hdg : decode cc pc = .ok (.ifCond .eq off, 3)) (ht : (pc : Int) + off = (tgt : Int)) (kt : ¬ P → W p l e R s m args below meth c H locs cells slots Q (F0 m tgt ls rest)) (kf : P → W p l e R s m args below meth c H locs cells slots Q (F0 m (pc + 3) ls rest)) : W p l e R s m args below meth c H locs cells slots Q (F0 m pc ls (.int (iI (bI P)) :: rest)) :=
  k_if_eq F hdg ht (bI_rg P) (fun h => kt (bI_0.mp h)) (fun h => kf (Decidable.not_not.mp (fun q => h (bI_0.mpr q))))
theorem k_ifb_ne (F : CallFix p m c cc nL s args Ts own) {P : Prop} [Decidable P] {off : Int} {tgt : Nat} (hdg : decode cc pc = .ok (.ifCond .ne off, 3)) (ht : (pc : Int) + off = (tgt : Int)) (kt : P → W p l e R s m args below meth c H locs cells slots Q (F0 m tgt ls rest)) (kf : ¬ P → W p l e R s m args below meth c H locs cells slots Q (F0 m (pc + 3) ls rest)) : W p l e R s m args below meth c H locs cells slots Q (F0 m pc ls (.int (iI (bI P)) :: rest)) :=
  k_if_ne F hdg ht (bI_rg P) (fun h => kt (Decidable.not_not.mp (fun q => h (bI_0.mpr q)))) (fun h => kf (bI_0.mp h))
theorem iI_max {a b : Int} (ha : -2147483648 ≤ a ∧ a < 2147483648) (hb : -2147483648 ≤ b ∧ b < 2147483648) : (if iI a < iI b then iI b else iI a) = iI (max a b) := by
  by_cases h : a < b
  · rw [if_pos ((iI_lt ha hb).mpr h), show max a b = b by omega]
  · rw [if_neg (fun q => h ((iI_lt ha hb).mp q)), show max a b = a by omega]
theorem iI_min {a b : Int} (ha : -2147483648 ≤ a ∧ a < 2147483648) (hb : -2147483648 ≤ b ∧ b < 2147483648) : (if iI b < iI a then iI b else iI a) = iI (min a b) := by
  by_cases h : b < a
  · rw [if_pos ((iI_lt hb ha).mpr h), show min a b = b by omega]
  · rw [if_neg (fun q => h ((iI_lt hb ha).mp q)), show min a b = a by omega]
theorem iI_abs {a : Int} (ha : -2147483648 ≤ a ∧ a < 2147483648) : (if 0 ≤ iI a then iI a else 0 - iI a) = iI (absI a) := by
  unfold absI
  by_cases h : 0 ≤ a
  · rw [if_pos ((iI_ge0 ha).mpr h), if_pos h]
  · rw [if_neg (fun q => h ((iI_ge0 ha).mp q)), if_neg h, ← iI_0, iI_sub, Int.zero_sub]
theorem k_mmax (F : CallFix p m c cc nL s args Ts own) (hsz : ls.size = nL) {index : Nat} (hlink : (Cond.methodLink own index Lib.Math.max.name).before args s = true) (hstat : (Cond.static Lib.Math.max.name).before args s = true) (hini : (Cond.initialized "java/lang/Math").before args s = true) (hcode : (Cond.code Lib.Math.max.name Lib.Math.max.code 2 (some .int)).before args s = true)
    (hframes : 1 ≤ R.frames) (hlocals : (rest.map fun v => v.category).sum + 13 ≤ R.locals) (hc : cells ≤ R.cells) (hs : slots ≤ R.slots) {a b : Int} (ha : -2147483648 ≤ a ∧ a < 2147483648) (hb : -2147483648 ≤ b ∧ b < 2147483648) (hdg : decode cc pc = .ok (.invokestatic index, 3))
    (kk : W p l e R s m args below meth c H locs cells slots Q (F0 m (pc + 3) ls (.int (iI (max a b)) :: rest))) : W p l e R s m args below meth c H locs cells slots Q (F0 m pc ls (.int (iI b) :: .int (iI a) :: rest)) :=
  va_mmax F.1 F.2.1 (F.2.2.1.trans hsz.symm) F.2.2.2.1 hlink hstat hini hcode hframes hlocals hc hs hdg (by rw [iI_max ha hb]; exact kk)
theorem k_mmin (F : CallFix p m c cc nL s args Ts own) (hsz : ls.size = nL) {index : Nat} (hlink : (Cond.methodLink own index Lib.Math.min.name).before args s = true) (hstat : (Cond.static Lib.Math.min.name).before args s = true) (hini : (Cond.initialized "java/lang/Math").before args s = true) (hcode : (Cond.code Lib.Math.min.name Lib.Math.min.code 2 (some .int)).before args s = true)
    (hframes : 1 ≤ R.frames) (hlocals : (rest.map fun v => v.category).sum + 13 ≤ R.locals) (hc : cells ≤ R.cells) (hs : slots ≤ R.slots) {a b : Int} (ha : -2147483648 ≤ a ∧ a < 2147483648) (hb : -2147483648 ≤ b ∧ b < 2147483648) (hdg : decode cc pc = .ok (.invokestatic index, 3))
    (kk : W p l e R s m args below meth c H locs cells slots Q (F0 m (pc + 3) ls (.int (iI (min a b)) :: rest))) : W p l e R s m args below meth c H locs cells slots Q (F0 m pc ls (.int (iI b) :: .int (iI a) :: rest)) :=
  va_mmin F.1 F.2.1 (F.2.2.1.trans hsz.symm) F.2.2.2.1 hlink hstat hini hcode hframes hlocals hc hs hdg (by rw [iI_min ha hb]; exact kk)
theorem k_mabs (F : CallFix p m c cc nL s args Ts own) (hsz : ls.size = nL) {index : Nat} (hlink : (Cond.methodLink own index Lib.Math.abs.name).before args s = true) (hstat : (Cond.static Lib.Math.abs.name).before args s = true) (hini : (Cond.initialized "java/lang/Math").before args s = true) (hcode : (Cond.code Lib.Math.abs.name Lib.Math.abs.code 1 (some .int)).before args s = true)
    (hframes : 1 ≤ R.frames) (hlocals : (rest.map fun v => v.category).sum + 13 ≤ R.locals) (hc : cells ≤ R.cells) (hs : slots ≤ R.slots) {a : Int} (ha : -2147483648 ≤ a ∧ a < 2147483648) (hdg : decode cc pc = .ok (.invokestatic index, 3))
    (kk : W p l e R s m args below meth c H locs cells slots Q (F0 m (pc + 3) ls (.int (iI (absI a)) :: rest))) : W p l e R s m args below meth c H locs cells slots Q (F0 m pc ls (.int (iI a) :: rest)) :=
  va_mabs F.1 F.2.1 (F.2.2.1.trans hsz.symm) F.2.2.2.1 hlink hstat hini hcode hframes hlocals hc hs hdg (by rw [iI_abs ha]; exact kk)
/-! what is given of the classes: the objects' classes, int[], Piece[], long[] -/
abbrev gT : Type := va_G × ClassId × ClassId × ClassId
abbrev gY (G : gT) : List (ClassId × FieldType) := [(G.2.1, .int), (G.2.2.1, .object RX0), (G.2.2.2, .long)]
abbrev gK (G : gT) (U : State) : Prop := va_K G.1 vwCl (gY G) U
abbrev gP (G : gT) (w : va_W) (H : Heap) : Prop := va_P G.1 vwCl w H
/-- an answer that is a number, the heap as it was -/
def oI (z : Int) : Array Value → State → Outcome → State → Prop := vp_Si (fun r => r = iI z)
def oV : Array Value → State → Outcome → State → Prop := va_Sv (fun _ => True)
abbrev rB (G : gT) (w : va_W) (U : State) : Prop := gP G w U.heap ∧ gK G U
theorem rB_blind (G : gT) (w : va_W) (As : List Value) : FrameBlind (va_Pc As (rB G w)) := fun a U g mk q => ⟨q.1, q.2.1, va_K.moved (u := U) (U := U.calling g mk a) (Vm.Alike.refl U.vm) q.2.2⟩
/-- the head of a method that writes nothing -/
theorem rd_start {own : String} {y : MethodName} {ws ws' : List Cond} {rm : Room} {mL : Nat} {ret : Option FieldType} {G : gT} {w : va_W} {As : List Value} {Qc : Array Value → State → Outcome → State → Prop} (hy : plainName y.cls = true) (ho : y.cls = own) (hw : ws = .code y cc mL ret :: ws') (hlen : (lg_sl As).length ≤ mL)
    (body : ∀ (p : Program) (e : Env) (s : State) (m : MethodId) (args : Array Value) (below : List Frame) (meth : Method) (c : Code) (ls : Array Slot), CallFix p m c cc mL s args ws own → meth.sig.returnType = ret → meth.locks = false → gP G w s.heap → gK G s → lv_has ls mL (lv_args 0 As) →
      W p l e rm s m args below meth c s.heap [] 0 0 (MQ below Qc args s 0 0 (fun _ => False)) (F0 m 0 ls [])) : Met l y ws rm (va_Pc As (rB G w)) Qc 0 0 (fun _ => False) := by
  refine Met.ofW (cc := cc) (maxL := mL) (ret := ret) hy hw ?_
  intro p e s m args below meth c s₁ B hml hv
  obtain ⟨rfl, hP, hK⟩ := hv
  have hl := lv_entry As (n := mL) hlen
  rw [lg_entry_eq]
  exact body p e s m _ below meth c _ ⟨B.exec, B.bytes, hml, ho ▸ findClass_of_methodNamed B.named, atoms_spec (ws := ws) B.pre⟩ B.returns B.notSynchronized hP hK hl
theorem k_iald (F : CallFix p m c cc nL s args Ts own) {G : gT} {w : va_W} {a : Nat} (hK : gK G s) (hP : gP G w H) (q0 : Nat) {n : Nat} {f : Nat → Int} (ha : w[q0]? = some (a, .inl (G.2.1, n, .inl (ia f)))) {z v : Int} (k : Nat) (hk : z = (k : Int)) (hlt : k < n) (hn : n < 2 ^ 31) (hv : f k = v) (hdg : decode cc pc = .ok (.iaload, 1))
    (kk : W p l e R s m args below meth c H locs cells slots Q (F0 m (pc + 1) ls (.int (iI v) :: rest))) : W p l e R s m args below meth c H locs cells slots Q (F0 m pc ls (.int (iI z) :: .ref a :: rest)) := by
  subst hv
  refine va_iald F.1 F.2.1 hK hP q0 0 ha rfl (iI_in hk hlt hn) hdg ?_
  rw [iI_cl hk (by omega)]
  exact kk
theorem k_get (F : CallFix p m c cc nL s args Ts own) {G : gT} {w : va_W} {a : Nat} (hK : gK G s) (hP : gP G w H) {ref C : String} {T : u_T} {N ci index : Nat} (hin : ∀ x ∈ u_ws C T N, x ∈ Ts) (q0 : Nat) {fs : List Value} (he : w[q0]? = some (a, .inr (ci, fs))) (hc : vwCl[ci]? = some (C, T, N)) (k : Nat) (hk : k < N) (hlink : (Cond.fieldLink own index ref (T k).2.1 (T k).2.2.1).before args s = true) (hr : ref = (T k).1) {v : Value} (hv : fs[k]? = some v) (hdg : decode cc pc = .ok (.getfield index, 3))
    (kk : W p l e R s m args below meth c H locs cells slots Q (F0 m (pc + 3) ls (v :: rest))) : W p l e R s m args below meth c H locs cells slots Q (F0 m pc ls (.ref a :: rest)) := by
  subst hr
  exact va_get F.1 F.2.1 F.2.2.2.2 hin F.2.2.2.1 hK hP q0 he hc k hk hlink (fun _ h9 => h9) hv hdg kk
theorem k_cond (F : CallFix p m c cc nL s args Ts own) {w : Cond} (h : w ∈ Ts) : w.before args s = true := F.2.2.2.2 w h
/-- a call of a method that writes nothing, answered by a number -/
theorem k_cs {z : Int} {st0 : List Value} {a : Array Value} {mm : Nat} (hm : mm = 0) (hr : va_Run p l e R s m args below meth c H locs cells slots 0 0 (F0 m pc ls st0) rest (oI z a) (fun _ => False))
    (kk : W p l e R s m args below meth c H locs cells slots Q (F0 m (pc + 3) ls (.int (iI z) :: rest))) : W p l e R s m args below meth c H locs cells slots Q (F0 m pc ls st0) := by
  intro T hT X
  obtain ⟨v, st₀, t, T', L, h0, X', hL, e1, -, ⟨r, hv, hp, hh⟩, st⟩ := hr T hT X
  cases hv
  subst hp
  obtain ⟨t2, a1, b1⟩ := kk T' (by rw [e1, hh, h0]) (Stand.forget X' (fun q h => (hL q h).elim))
  exact ⟨t2, st t2 a1, b1⟩
theorem rd_V (F : CallFix p m c cc nL s args Ts own) {G : gT} {w w0 : va_W} {z : Int} {y : MethodName} {bytes : ByteArray} {ws ws' : List Cond} {rm : Room} {mL n index : Nat} {ret : Option FieldType} {b : Nat} {As st0 : List Value} {C : String}
    (hM : Met l y ws rm (va_Pc (.ref b :: As) (rB G w)) (oI z) 0 0 (fun _ => False)) (g : GoodIn Ts (wsV own index C y ws)) (hw : ws = .code y bytes mL ret :: ws') (hrc : rm.cells = 0) (hrs : rm.slots = 0)
    (hd : y.cls = C ∧ y.cls ≠ "java/lang/invoke/MethodHandle" ∧ y.cls ≠ "java/lang/invoke/VarHandle" ∧ (parseMethodDescriptor y.desc).map (fun d => d.parameters.length) = some n) (hR : rm.frames + 1 ≤ R.frames ∧ 8 + (mL + 11) + rm.locals ≤ R.locals)
    (hK : gK G s) (hP : gP G w H) {ci q0 : Nat} {T : u_T} {N : Nat} {fs : List Value} (hc : vwCl[ci]? = some (C, T, N)) (he : w[q0]? = some (b, .inr (ci, fs))) (hn : As.length = n) (hst : st0 = As.reverse ++ .ref b :: rest) (hsz : ls.size = nL) (hW : (rest.map fun v => v.category).sum ≤ 8) (hdg : decode cc pc = .ok (.invokevirtual index, 3)) (hf : cells ≤ R.cells ∧ slots ≤ R.slots)
    (kk : W p l e R s m args below meth c H locs cells slots Q (F0 m (pc + 3) ls (.int (iI z) :: rest))) : W p l e R s m args below meth c H locs cells slots Q (F0 m pc ls st0) :=
  k_cs (mm := 0) rfl (va_runV (As := As) (rest := rest) F hM (cwV n F.2.2.2.2 g hw hrc hrs hd hR) ⟨rB_blind G w _, va_recv hK hP hc he, fun U hU hW => ⟨rfl, by rw [hU]; exact hP, va_K.moved hW.alike hK⟩⟩ rfl hn hsz hst (lv_room hW) hdg hf) kk
theorem rd_S (F : CallFix p m c cc nL s args Ts own) {G : gT} {w w0 : va_W} {z : Int} {y : MethodName} {bytes : ByteArray} {ws ws' : List Cond} {rm : Room} {mL n index : Nat} {ret : Option FieldType} {As st0 : List Value}
    (hM : Met l y ws rm (va_Pc As (rB G w)) (oI z) 0 0 (fun _ => False)) (g : GoodIn Ts (va_wsS own index y ws)) (hw : ws = .code y bytes mL ret :: ws') (hrc : rm.cells = 0) (hrs : rm.slots = 0)
    (hd : y.cls ≠ "java/lang/invoke/MethodHandle" ∧ y.cls ≠ "java/lang/invoke/VarHandle" ∧ (parseMethodDescriptor y.desc).map (fun d => d.parameters.length) = some n) (hR : rm.frames + 1 ≤ R.frames ∧ 8 + (mL + 11) + rm.locals ≤ R.locals)
    (hK : gK G s) (hP : gP G w H) (hn : As.length = n) (hst : st0 = As.reverse ++ rest) (hsz : ls.size = nL) (hW : (rest.map fun v => v.category).sum ≤ 8) (hdg : decode cc pc = .ok (.invokestatic index, 3)) (hf : cells ≤ R.cells ∧ slots ≤ R.slots)
    (kk : W p l e R s m args below meth c H locs cells slots Q (F0 m (pc + 3) ls (.int (iI z) :: rest))) : W p l e R s m args below meth c H locs cells slots Q (F0 m pc ls st0) :=
  k_cs (mm := 0) rfl (va_runS (As := As) (rest := rest) F hM (va_cwS n F.2.2.2.2 g hw hrc hrs hd hR) ⟨rB_blind G w _, fun U hU hW => ⟨rfl, by rw [hU]; exact hP, va_K.moved hW.alike hK⟩⟩ rfl hn hsz hst (lv_room hW) hdg hf) kk
theorem k_ret (F : CallFix p m c cc nL s args Ts own) (hr : meth.sig.returnType = some .int) (hlocks : meth.locks = false) {z z' : Int} (hz : z' = z) (hdg : decode cc pc = .ok (.ireturn, 1)) : W p l e R s m args below meth c s.heap [] cells slots (MQ below (oI z) args s cells slots (fun _ => False)) (F0 m pc ls [.int (iI z')]) :=
  W.iret F.1 F.2.1 hr (fun t ht _ => ⟨_, rfl, by rw [hz], ht⟩) (fun q h => nomatch h) hdg hlocks
theorem k_zret (F : CallFix p m c cc nL s args Ts own) (hr : meth.sig.returnType = some .boolean) (hlocks : meth.locks = false) {z z' : Int} (hz : z' = z) (h01 : z' = 0 ∨ z' = 1) (hdg : decode cc pc = .ok (.ireturn, 1)) : W p l e R s m args below meth c s.heap [] cells slots (MQ below (oI z) args s cells slots (fun _ => False)) (F0 m pc ls [.int (iI z')]) :=
  W.zret F.1 F.2.1 hr (by rcases h01 with h | h <;> rw [h] <;> decide +kernel) (fun t ht _ => ⟨_, rfl, by rw [hz], ht⟩) (fun q h => nomatch h) hdg hlocks
end KIT
end
section
/-! the state that class and reference share: sg k i j (0 refusal, 1 singers, 2 pieces, 3 voice, 4 lowest, 5 highest, 6 away, 7 tones, 8 chords, 9 length, 10 practice) -/
abbrev Sg : Type := Nat → Nat → Nat → Int
def su (σ : Sg) (k i j : Nat) (v : Int) : Sg := fun a b c => if a = k ∧ b = i ∧ c = j then v else σ a b c
/-- there on a date, by the bits of the dates away -/
def thr (w d : Int) : Bool := decide (andI (shrI w d) 1 = 0)
/-- singer k sings voice v on date d -/
def sgs (σ : Sg) (v d : Int) (k : Nat) : Bool := decide (σ 3 0 k = v) && thr (σ 6 0 k) d
theorem sgs_t {σ : Sg} {v d : Int} {k : Nat} (h1 : σ 3 0 k = v) (h2 : thr (σ 6 0 k) d = true) : sgs σ v d k = true := by simp [sgs, h1, h2]
theorem sgs_f1 {σ : Sg} {v d : Int} {k : Nat} (h1 : σ 3 0 k ≠ v) : sgs σ v d k = false := by simp [sgs, h1]
theorem sgs_f2 {σ : Sg} {v d : Int} {k : Nat} (h2 : ¬ thr (σ 6 0 k) d = true) : sgs σ v d k = false := by
  have h3 : thr (σ 6 0 k) d = false := by simpa using h2
  simp [sgs, h3]
/-- the invariant: n singers, k pieces, N calls behind -/
def Iv (σ : Sg) (n k N : Nat) : Prop :=
  σ 1 0 0 = (n : Int) ∧ n ≤ 12 ∧ σ 2 0 0 = (k : Int) ∧ k ≤ 6 ∧
  (∀ j, j < n → 0 ≤ σ 3 0 j ∧ σ 3 0 j ≤ 3 ∧ 0 ≤ σ 4 0 j ∧ σ 4 0 j ≤ σ 5 0 j ∧ σ 5 0 j ≤ 60) ∧
  (∀ j, -2147483648 ≤ σ 6 0 j ∧ σ 6 0 j < 2147483648) ∧
  (∀ i, 0 ≤ σ 8 i 0 ∧ σ 8 i 0 ≤ 16) ∧ (∀ i, i < k → 1 ≤ σ 8 i 0) ∧ (∀ i, k < i → σ 8 i 0 = 0) ∧
  (∀ i j, 0 ≤ σ 7 i j ∧ σ 7 i j ≤ 60) ∧ (∀ i c, σ 7 i (4 * c + 3) ≤ σ 7 i (4 * c + 2) ∧ σ 7 i (4 * c + 2) ≤ σ 7 i (4 * c + 1) ∧ σ 7 i (4 * c + 1) ≤ σ 7 i (4 * c)) ∧ (∀ i, k < i → ∀ j, σ 7 i j = 0) ∧
  (∀ i j, 0 ≤ σ 10 i j ∧ σ 10 i j ≤ 120 * N) ∧ N ≤ 512 ∧ (∀ i, k ≤ i → ∀ j, σ 10 i j = 0) ∧
  (∀ i, 0 ≤ σ 9 i 0 ∧ σ 9 i 0 ≤ 3600) ∧ (∀ i, k ≤ i → σ 9 i 0 = 0)
/-- the first tone of a voice's range, as the reference finds it -/
def foA (σ : Sg) (v d : Int) : Nat → Int
  | 0 => -1
  | k + 1 => if sgs σ v d k = true ∧ foA σ v d k < σ 4 0 k then σ 4 0 k else foA σ v d k
def foM (σ : Sg) (v d : Int) (n : Nat) : Int := if foA σ v d n < 0 then 61 else foA σ v d n
def laA (σ : Sg) (v d : Int) : Nat → Int
  | 0 => 60
  | k + 1 => if sgs σ v d k = true ∧ σ 5 0 k < laA σ v d k then σ 5 0 k else laA σ v d k
theorem foA_s (σ : Sg) (v d : Int) (k : Nat) : foA σ v d (k + 1) = if sgs σ v d k = true ∧ foA σ v d k < σ 4 0 k then σ 4 0 k else foA σ v d k := rfl
theorem laA_s (σ : Sg) (v d : Int) (k : Nat) : laA σ v d (k + 1) = if sgs σ v d k = true ∧ σ 5 0 k < laA σ v d k then σ 5 0 k else laA σ v d k := rfl
theorem foA_rg {σ : Sg} {v d : Int} {n : Nat} (h : ∀ j, j < n → 0 ≤ σ 4 0 j ∧ σ 4 0 j ≤ 60) : ∀ k, k ≤ n → -1 ≤ foA σ v d k ∧ foA σ v d k ≤ 60
  | 0, _ => by simp [foA]
  | k + 1, hk => by
    have h1 := foA_rg (v := v) (d := d) h k (by omega)
    have h2 := h k (by omega)
    rw [foA_s]
    split <;> omega
theorem laA_rg {σ : Sg} {v d : Int} {n : Nat} (h : ∀ j, j < n → 0 ≤ σ 5 0 j ∧ σ 5 0 j ≤ 60) : ∀ k, k ≤ n → 0 ≤ laA σ v d k ∧ laA σ v d k ≤ 60
  | 0, _ => by simp [laA]
  | k + 1, hk => by
    have h1 := laA_rg (v := v) (d := d) h k (by omega)
    have h2 := h k (by omega)
    rw [laA_s]
    split <;> omega
/-! the reference's world -/
abbrev MW (G : gT) (A : Nat → Nat) (σ : Sg) : va_W := [(A 0, .inr (3, [.int (iI (σ 0 0 0)), .int (iI (σ 1 0 0)), .ref (A 1), .ref (A 2), .ref (A 3), .ref (A 4), .int (iI (σ 2 0 0)), .ref (A 5), .ref (A 6), .ref (A 7), .ref (A 8)])),
  (A 1, .inl (G.2.1, 12, .inl (ia (σ 3 0)))), (A 2, .inl (G.2.1, 12, .inl (ia (σ 4 0)))), (A 3, .inl (G.2.1, 12, .inl (ia (σ 5 0)))), (A 4, .inl (G.2.1, 12, .inl (ia (σ 6 0)))),
  (A 5, .inl (G.2.1, 448, .inl (ia (fun q => σ 7 (q / 64) (q % 64))))), (A 6, .inl (G.2.1, 7, .inl (ia (fun q => σ 8 q 0)))), (A 7, .inl (G.2.1, 6, .inl (ia (fun q => σ 9 q 0)))), (A 8, .inl (G.2.1, 96, .inl (ia (fun q => σ 10 (q / 16) (q % 16)))))]
end
section
set_option maxHeartbeats 4000000 in
set_option maxRecDepth 100000 in
theorem mX3_in (l : Launch) (G : gT) (w : va_W) (v lo hi : Int) (hv : -2147483648 ≤ v ∧ v < 2147483648) (hlo : -2147483648 ≤ lo ∧ lo < 2147483648) (hhi : -2147483648 ≤ hi ∧ hi < 2147483648) : Met l yX3_in wsX3_in { frames := 0, cells := 0, slots := 0, locals := 0 } (va_Pc [.int (iI v), .int (iI lo), .int (iI hi)] (rB G (w))) (oI (bI (lo ≤ v ∧ v ≤ hi))) 0 0 (fun _ => False) := by
  refine rd_start (own := RX3) (cc := cX3_in) (mL := 3) (ret := (some .boolean)) (by decide) rfl rfl (Nat.le_of_ble_eq_true rfl) ?_
  intro p e s m args below meth c ls F hr hlocks hP hK hl
  have hl : lv_has ls 3 [(0, .int (iI v)), (1, .int (iI lo)), (2, .int (iI hi))] := hl
  refine lv_iload_n F.1 F.2.1 dX3_in_0 rfl (lv_at hl 0 rfl) ?_
  refine lv_iload_n F.1 F.2.1 dX3_in_1 rfl (lv_at hl 1 rfl) ?_
  refine k_icmp_lt F (tgt := 14) dX3_in_2 (by decide) (by omega) (by omega) (fun c_1 => ?_) (fun c_1 => ?_)
  · skip
    refine k_iconst F dX3_in_14 ?_
    exact k_zret F hr hlocks (bI_f (by omega)).symm (Or.inl rfl) dX3_in_15
  · skip
    refine lv_iload_n F.1 F.2.1 dX3_in_5 rfl (lv_at hl 0 rfl) ?_
    refine lv_iload_n F.1 F.2.1 dX3_in_6 rfl (lv_at hl 2 rfl) ?_
    refine k_icmp_gt F (tgt := 14) dX3_in_7 (by decide) (by omega) (by omega) (fun c_2 => ?_) (fun c_2 => ?_)
    · skip
      refine k_iconst F dX3_in_14 ?_
      exact k_zret F hr hlocks (bI_f (by omega)).symm (Or.inl rfl) dX3_in_15
    · skip
      refine k_iconst F dX3_in_10 ?_
      refine lv_goto (tgt := 15) F.1 F.2.1 dX3_in_11 (by decide) ?_
      exact k_zret F hr hlocks (bI_t (by omega)).symm (Or.inr rfl) dX3_in_15

set_option maxHeartbeats 4000000 in
set_option maxRecDepth 100000 in
theorem mX3_isVoice (l : Launch) (G : gT) (w : va_W) (v : Int) (hv : -2147483648 ≤ v ∧ v < 2147483648) : Met l yX3_isVoice wsX3_isVoice { frames := 1, cells := 0, slots := 0, locals := 22 } (va_Pc [.int (iI v)] (rB G (w))) (oI (bI (0 ≤ v ∧ v ≤ 3))) 0 0 (fun _ => False) := by
  refine rd_start (own := RX3) (cc := cX3_isVoice) (mL := 1) (ret := (some .boolean)) (by decide) rfl rfl (Nat.le_of_ble_eq_true rfl) ?_
  intro p e s m args below meth c ls F hr hlocks hP hK hl
  have hl : lv_has ls 1 [(0, .int (iI v))] := hl
  refine lv_iload_n F.1 F.2.1 dX3_isVoice_0 rfl (lv_at hl 0 rfl) ?_
  refine k_iconst F dX3_isVoice_1 ?_
  refine k_iconst F dX3_isVoice_2 ?_
  refine rd_S F (n := 3) (w0 := []) (mX3_in l G w v 0 3 (by omega) (by decide) (by decide)) gX3_isVoice_X3_in rfl rfl rfl (by decide +kernel) ⟨Nat.le_of_ble_eq_true rfl, Nat.le_of_ble_eq_true rfl⟩ hK hP rfl rfl hl.1 (Nat.le_of_ble_eq_true rfl) dX3_isVoice_3 ⟨Nat.zero_le _, Nat.zero_le _⟩ ?_
  exact k_zret F hr hlocks rfl (bI_01 _) dX3_isVoice_6

set_option maxHeartbeats 4000000 in
set_option maxRecDepth 100000 in
theorem mX3_isDate (l : Launch) (G : gT) (w : va_W) (v : Int) (hv : -2147483648 ≤ v ∧ v < 2147483648) : Met l yX3_isDate wsX3_isDate { frames := 1, cells := 0, slots := 0, locals := 22 } (va_Pc [.int (iI v)] (rB G (w))) (oI (bI (0 ≤ v ∧ v ≤ 30))) 0 0 (fun _ => False) := by
  refine rd_start (own := RX3) (cc := cX3_isDate) (mL := 1) (ret := (some .boolean)) (by decide) rfl rfl (Nat.le_of_ble_eq_true rfl) ?_
  intro p e s m args below meth c ls F hr hlocks hP hK hl
  have hl : lv_has ls 1 [(0, .int (iI v))] := hl
  refine lv_iload_n F.1 F.2.1 dX3_isDate_0 rfl (lv_at hl 0 rfl) ?_
  refine k_iconst F dX3_isDate_1 ?_
  refine k_bipush F dX3_isDate_2 (by decide +kernel) ?_
  refine rd_S F (n := 3) (w0 := []) (mX3_in l G w v 0 30 (by omega) (by decide) (by decide)) gX3_isDate_X3_in rfl rfl rfl (by decide +kernel) ⟨Nat.le_of_ble_eq_true rfl, Nat.le_of_ble_eq_true rfl⟩ hK hP rfl rfl hl.1 (Nat.le_of_ble_eq_true rfl) dX3_isDate_4 ⟨Nat.zero_le _, Nat.zero_le _⟩ ?_
  exact k_zret F hr hlocks rfl (bI_01 _) dX3_isDate_7

set_option maxHeartbeats 4000000 in
set_option maxRecDepth 100000 in
theorem mX3_isTone (l : Launch) (G : gT) (w : va_W) (v : Int) (hv : -2147483648 ≤ v ∧ v < 2147483648) : Met l yX3_isTone wsX3_isTone { frames := 1, cells := 0, slots := 0, locals := 22 } (va_Pc [.int (iI v)] (rB G (w))) (oI (bI (0 ≤ v ∧ v ≤ 60))) 0 0 (fun _ => False) := by
  refine rd_start (own := RX3) (cc := cX3_isTone) (mL := 1) (ret := (some .boolean)) (by decide) rfl rfl (Nat.le_of_ble_eq_true rfl) ?_
  intro p e s m args below meth c ls F hr hlocks hP hK hl
  have hl : lv_has ls 1 [(0, .int (iI v))] := hl
  refine lv_iload_n F.1 F.2.1 dX3_isTone_0 rfl (lv_at hl 0 rfl) ?_
  refine k_iconst F dX3_isTone_1 ?_
  refine k_bipush F dX3_isTone_2 (by decide +kernel) ?_
  refine rd_S F (n := 3) (w0 := []) (mX3_in l G w v 0 60 (by omega) (by decide) (by decide)) gX3_isTone_X3_in rfl rfl rfl (by decide +kernel) ⟨Nat.le_of_ble_eq_true rfl, Nat.le_of_ble_eq_true rfl⟩ hK hP rfl rfl hl.1 (Nat.le_of_ble_eq_true rfl) dX3_isTone_4 ⟨Nat.zero_le _, Nat.zero_le _⟩ ?_
  exact k_zret F hr hlocks rfl (bI_01 _) dX3_isTone_7

set_option maxHeartbeats 4000000 in
set_option maxRecDepth 100000 in
theorem mX3_isSinger (l : Launch) (G : gT) (A : Nat → Nat) (σ : Sg) (x : Int) (hx : -2147483648 ≤ x ∧ x < 2147483648) {n k N : Nat} (hI : Iv σ n k N) : Met l yX3_isSinger wsX3_isSinger { frames := 1, cells := 0, slots := 0, locals := 22 } (va_Pc [.ref (A 0), .int (iI x)] (rB G (MW G A σ))) (oI (bI (0 ≤ x ∧ x ≤ σ 1 0 0 - 1))) 0 0 (fun _ => False) := by
  refine rd_start (own := RX3) (cc := cX3_isSinger) (mL := 2) (ret := (some .boolean)) (by decide) rfl rfl (Nat.le_of_ble_eq_true rfl) ?_
  intro p e s m args below meth c ls F hr hlocks hP hK hl
  obtain ⟨hn, hn12, hk, hk6, hsg, haw, hch, hch1, hch0, htn, hto, htz, hpr, hN, hpz, hle, hlz⟩ := id hI
  have iX3 : ∀ x ∈ wsX30, x ∈ wsX3_isSinger := by decide +kernel
  have f42 := k_cond F (w := .fieldLink RX3 42 "ChoirPlannerModel" "singers" "I") (by decide +kernel)
  have hl : lv_has ls 2 [(0, .ref (A 0)), (1, .int (iI x))] := hl
  refine lv_iload_n F.1 F.2.1 dX3_isSinger_0 rfl (lv_at hl 1 rfl) ?_
  refine k_iconst F dX3_isSinger_1 ?_
  refine lv_aload_n F.1 F.2.1 dX3_isSinger_2 rfl (lv_at hl 0 rfl) ?_
  refine k_get F hK hP iX3 0 rfl rfl 1 (by decide) f42 rfl rfl dX3_isSinger_3 ?_
  refine k_iconst F dX3_isSinger_6 ?_
  refine k_isub F rfl dX3_isSinger_7 ?_
  refine rd_S F (n := 3) (w0 := []) (mX3_in l G (MW G A σ) x 0 (σ 1 0 0 - 1) (by omega) (by decide) (by omega)) gX3_isSinger_X3_in rfl rfl rfl (by decide +kernel) ⟨Nat.le_of_ble_eq_true rfl, Nat.le_of_ble_eq_true rfl⟩ hK hP rfl rfl hl.1 (Nat.le_of_ble_eq_true rfl) dX3_isSinger_8 ⟨Nat.zero_le _, Nat.zero_le _⟩ ?_
  exact k_zret F hr hlocks rfl (bI_01 _) dX3_isSinger_11

set_option maxHeartbeats 4000000 in
set_option maxRecDepth 100000 in
theorem mX3_isPiece (l : Launch) (G : gT) (A : Nat → Nat) (σ : Sg) (x : Int) (hx : -2147483648 ≤ x ∧ x < 2147483648) {n k N : Nat} (hI : Iv σ n k N) : Met l yX3_isPiece wsX3_isPiece { frames := 1, cells := 0, slots := 0, locals := 22 } (va_Pc [.ref (A 0), .int (iI x)] (rB G (MW G A σ))) (oI (bI (0 ≤ x ∧ x ≤ σ 2 0 0 - 1))) 0 0 (fun _ => False) := by
  refine rd_start (own := RX3) (cc := cX3_isPiece) (mL := 2) (ret := (some .boolean)) (by decide) rfl rfl (Nat.le_of_ble_eq_true rfl) ?_
  intro p e s m args below meth c ls F hr hlocks hP hK hl
  obtain ⟨hn, hn12, hk, hk6, hsg, haw, hch, hch1, hch0, htn, hto, htz, hpr, hN, hpz, hle, hlz⟩ := id hI
  have iX3 : ∀ x ∈ wsX30, x ∈ wsX3_isPiece := by decide +kernel
  have f45 := k_cond F (w := .fieldLink RX3 45 "ChoirPlannerModel" "pieces" "I") (by decide +kernel)
  have hl : lv_has ls 2 [(0, .ref (A 0)), (1, .int (iI x))] := hl
  refine lv_iload_n F.1 F.2.1 dX3_isPiece_0 rfl (lv_at hl 1 rfl) ?_
  refine k_iconst F dX3_isPiece_1 ?_
  refine lv_aload_n F.1 F.2.1 dX3_isPiece_2 rfl (lv_at hl 0 rfl) ?_
  refine k_get F hK hP iX3 0 rfl rfl 6 (by decide) f45 rfl rfl dX3_isPiece_3 ?_
  refine k_iconst F dX3_isPiece_6 ?_
  refine k_isub F rfl dX3_isPiece_7 ?_
  refine rd_S F (n := 3) (w0 := []) (mX3_in l G (MW G A σ) x 0 (σ 2 0 0 - 1) (by omega) (by decide) (by omega)) gX3_isPiece_X3_in rfl rfl rfl (by decide +kernel) ⟨Nat.le_of_ble_eq_true rfl, Nat.le_of_ble_eq_true rfl⟩ hK hP rfl rfl hl.1 (Nat.le_of_ble_eq_true rfl) dX3_isPiece_8 ⟨Nat.zero_le _, Nat.zero_le _⟩ ?_
  exact k_zret F hr hlocks rfl (bI_01 _) dX3_isPiece_11

set_option maxHeartbeats 4000000 in
set_option maxRecDepth 100000 in
theorem mX3_isChord (l : Launch) (G : gT) (A : Nat → Nat) (σ : Sg) (x y : Int) (hx : -2147483648 ≤ x ∧ x < 2147483648) (hy : -2147483648 ≤ y ∧ y < 2147483648) {n k N : Nat} (hI : Iv σ n k N) : Met l yX3_isChord wsX3_isChord { frames := 2, cells := 0, slots := 0, locals := 43 } (va_Pc [.ref (A 0), .int (iI x), .int (iI y)] (rB G (MW G A σ))) (oI (bI (0 ≤ x ∧ x ≤ σ 2 0 0 - 1 ∧ 0 ≤ y ∧ y ≤ σ 8 x.toNat 0 - 1))) 0 0 (fun _ => False) := by
  refine rd_start (own := RX3) (cc := cX3_isChord) (mL := 3) (ret := (some .boolean)) (by decide) rfl rfl (Nat.le_of_ble_eq_true rfl) ?_
  intro p e s m args below meth c ls F hr hlocks hP hK hl
  obtain ⟨hn, hn12, hk, hk6, hsg, haw, hch, hch1, hch0, htn, hto, htz, hpr, hN, hpz, hle, hlz⟩ := id hI
  have hcx := hch x.toNat
  have iX3 : ∀ x ∈ wsX30, x ∈ wsX3_isChord := by decide +kernel
  have f25 := k_cond F (w := .fieldLink RX3 25 "ChoirPlannerModel" "chords" "[I") (by decide +kernel)
  have hl : lv_has ls 3 [(0, .ref (A 0)), (1, .int (iI x)), (2, .int (iI y))] := hl
  refine lv_aload_n F.1 F.2.1 dX3_isChord_0 rfl (lv_at hl 0 rfl) ?_
  refine lv_iload_n F.1 F.2.1 dX3_isChord_1 rfl (lv_at hl 1 rfl) ?_
  refine rd_V F (n := 1) (w0 := []) (mX3_isPiece l G A σ x (by omega) hI) gX3_isChord_X3_isPiece rfl rfl rfl (by decide +kernel) ⟨Nat.le_of_ble_eq_true rfl, Nat.le_of_ble_eq_true rfl⟩ hK hP (ci := 3) (q0 := 0) rfl rfl rfl rfl hl.1 (Nat.le_of_ble_eq_true rfl) dX3_isChord_2 ⟨Nat.zero_le _, Nat.zero_le _⟩ ?_
  refine k_ifb_eq F (tgt := 28) dX3_isChord_5 (by decide) (fun c_1 => ?_) (fun c_1 => ?_)
  · skip
    refine k_iconst F dX3_isChord_28 ?_
    exact k_zret F hr hlocks (bI_f (by omega)).symm (Or.inl rfl) dX3_isChord_29
  · skip
    refine lv_iload_n F.1 F.2.1 dX3_isChord_8 rfl (lv_at hl 2 rfl) ?_
    refine k_iconst F dX3_isChord_9 ?_
    refine lv_aload_n F.1 F.2.1 dX3_isChord_10 rfl (lv_at hl 0 rfl) ?_
    refine k_get F hK hP iX3 0 rfl rfl 8 (by decide) f25 rfl rfl dX3_isChord_11 ?_
    refine lv_iload_n F.1 F.2.1 dX3_isChord_14 rfl (lv_at hl 1 rfl) ?_
    refine k_iald F hK hP 6 rfl x.toNat (by omega) (by omega) (by decide) rfl dX3_isChord_15 ?_
    refine k_iconst F dX3_isChord_16 ?_
    refine k_isub F rfl dX3_isChord_17 ?_
    refine rd_S F (n := 3) (w0 := []) (mX3_in l G (MW G A σ) y 0 ((σ 8 x.toNat 0) - 1) (by omega) (by decide) (by omega)) gX3_isChord_X3_in rfl rfl rfl (by decide +kernel) ⟨Nat.le_of_ble_eq_true rfl, Nat.le_of_ble_eq_true rfl⟩ hK hP rfl rfl hl.1 (Nat.le_of_ble_eq_true rfl) dX3_isChord_18 ⟨Nat.zero_le _, Nat.zero_le _⟩ ?_
    refine k_ifb_eq F (tgt := 28) dX3_isChord_21 (by decide) (fun c_2 => ?_) (fun c_2 => ?_)
    · skip
      refine k_iconst F dX3_isChord_28 ?_
      exact k_zret F hr hlocks (bI_f (by omega)).symm (Or.inl rfl) dX3_isChord_29
    · skip
      refine k_iconst F dX3_isChord_24 ?_
      refine lv_goto (tgt := 29) F.1 F.2.1 dX3_isChord_25 (by decide) ?_
      exact k_zret F hr hlocks (bI_t (by omega)).symm (Or.inr rfl) dX3_isChord_29

set_option maxHeartbeats 4000000 in
set_option maxRecDepth 100000 in
theorem mX3_isThere (l : Launch) (G : gT) (A : Nat → Nat) (σ : Sg) (j : Nat) (d : Int) (hj : j < 12) : Met l yX3_isThere wsX3_isThere { frames := 0, cells := 0, slots := 0, locals := 0 } (va_Pc [.ref (A 0), .int (iI (j : Int)), .int (iI d)] (rB G (MW G A σ))) (oI (bI (thr (σ 6 0 j) d = true))) 0 0 (fun _ => False) := by
  refine rd_start (own := RX3) (cc := cX3_isThere) (mL := 3) (ret := (some .boolean)) (by decide) rfl rfl (Nat.le_of_ble_eq_true rfl) ?_
  intro p e s m args below meth c ls F hr hlocks hP hK hl
  have iX3 : ∀ x ∈ wsX30, x ∈ wsX3_isThere := by decide +kernel
  have f19 := k_cond F (w := .fieldLink RX3 19 "ChoirPlannerModel" "away" "[I") (by decide +kernel)
  have hl : lv_has ls 3 [(0, .ref (A 0)), (1, .int (iI (j : Int))), (2, .int (iI d))] := hl
  refine lv_aload_n F.1 F.2.1 dX3_isThere_0 rfl (lv_at hl 0 rfl) ?_
  refine k_get F hK hP iX3 0 rfl rfl 5 (by decide) f19 rfl rfl dX3_isThere_1 ?_
  refine lv_iload_n F.1 F.2.1 dX3_isThere_4 rfl (lv_at hl 1 rfl) ?_
  refine k_iald F hK hP 4 rfl j (by omega) (by omega) (by decide) rfl dX3_isThere_5 ?_
  refine lv_iload_n F.1 F.2.1 dX3_isThere_6 rfl (lv_at hl 2 rfl) ?_
  refine k_ishr F dX3_isThere_7 ?_
  refine k_iconst F dX3_isThere_8 ?_
  refine k_iand F dX3_isThere_9 ?_
  refine k_if_ne F (tgt := 17) dX3_isThere_10 (by decide) (iI_rg _) (fun c_1 => ?_) (fun c_1 => ?_)
  · skip
    refine k_iconst F dX3_isThere_17 ?_
    exact k_zret F hr hlocks (bI_f (by simpa [thr] using c_1)).symm (Or.inl rfl) dX3_isThere_18
  · skip
    refine k_iconst F dX3_isThere_13 ?_
    refine lv_goto (tgt := 18) F.1 F.2.1 dX3_isThere_14 (by decide) ?_
    exact k_zret F hr hlocks (bI_t (by simpa [thr] using c_1)).symm (Or.inr rfl) dX3_isThere_18

set_option maxHeartbeats 4000000 in
set_option maxRecDepth 100000 in
theorem mX3_firstOf (l : Launch) (G : gT) (A : Nat → Nat) (σ : Sg) (v d : Int) (hv : -2147483648 ≤ v ∧ v < 2147483648) {n k N : Nat} (hI : Iv σ n k N) : Met l yX3_firstOf wsX3_firstOf { frames := 1, cells := 0, slots := 0, locals := 22 } (va_Pc [.ref (A 0), .int (iI v), .int (iI d)] (rB G (MW G A σ))) (oI (foM σ v d n)) 0 0 (fun _ => False) := by
  refine rd_start (own := RX3) (cc := cX3_firstOf) (mL := 6) (ret := (some .int)) (by decide) rfl rfl (Nat.le_of_ble_eq_true rfl) ?_
  intro p e s m args below meth c ls F hr hlocks hP hK hl
  obtain ⟨hn, hn12, hk, hk6, hsg, haw, hch, hch1, hch0, htn, hto, htz, hpr, hN, hpz, hle, hlz⟩ := id hI
  have hfr := foA_rg (σ := σ) (v := v) (d := d) (n := n) (fun j hj => ⟨(hsg j hj).2.2.1, by have := hsg j hj; omega⟩)
  have iX3 : ∀ x ∈ wsX30, x ∈ wsX3_firstOf := by decide +kernel
  have f7 := k_cond F (w := .fieldLink RX3 7 "ChoirPlannerModel" "voiceOf" "[I") (by decide +kernel)
  have f13 := k_cond F (w := .fieldLink RX3 13 "ChoirPlannerModel" "lows" "[I") (by decide +kernel)
  have f42 := k_cond F (w := .fieldLink RX3 42 "ChoirPlannerModel" "singers" "I") (by decide +kernel)
  have hl : lv_has ls 6 [(0, .ref (A 0)), (1, .int (iI v)), (2, .int (iI d))] := hl
  refine k_iconst F dX3_firstOf_0 ?_
  refine lv_istore_n (lv' := [(3, .int (iI (-1))), (0, .ref (A 0)), (1, .int (iI v)), (2, .int (iI d))]) F.1 F.2.1 dX3_firstOf_1 rfl hl (by decide) rfl (fun ls hl => ?_)
  refine k_iconst F dX3_firstOf_2 ?_
  refine lv_istore (lv' := [(4, .int (iI 0)), (3, .int (iI (-1))), (0, .ref (A 0)), (1, .int (iI v)), (2, .int (iI d))]) F.1 F.2.1 dX3_firstOf_3 hl (by decide) rfl (fun ls hl => ?_)
  have J_1 : ∀ k : Nat, k ≤ n → ∀ ls : Array Slot, lv_has ls 6 [(4, .int (iI (k : Int))), (3, .int (iI (foA σ v d k))), (0, .ref (A 0)), (1, .int (iI v)), (2, .int (iI d))] → W p l e ({ frames := 1, cells := 0, slots := 0, locals := 22 }) s m args below meth c s.heap [] 0 0 (MQ below (oI (foM σ v d n)) args s 0 0 (fun _ => False)) (F0 m 5 ls []) := by
    refine lp_up (n) ?_ ?_
    · intro ls hl
      have hf := hfr n (by omega)
      refine lv_iload F.1 F.2.1 dX3_firstOf_5 (lv_at hl 0 rfl) ?_
      refine lv_aload_n F.1 F.2.1 dX3_firstOf_7 rfl (lv_at hl 2 rfl) ?_
      refine k_get F hK hP iX3 0 rfl rfl 1 (by decide) f42 rfl rfl dX3_firstOf_8 ?_
      refine k_icmp_ge F (tgt := 76) dX3_firstOf_11 (by decide) (by omega) (by omega) (fun c_3 => ?_) (fun c_3 => absurd c_3 (by omega))
      refine lv_iload_n F.1 F.2.1 dX3_firstOf_76 rfl (lv_at hl 1 rfl) ?_
      refine k_if_ge F (tgt := 85) dX3_firstOf_77 (by decide) (by omega) (fun c_4 => ?_) (fun c_4 => ?_)
      · skip
        refine lv_iload_n F.1 F.2.1 dX3_firstOf_85 rfl (lv_at hl 1 rfl) ?_
        exact k_ret F hr hlocks (by unfold foM; first | rw [if_pos (by omega)] | rw [if_neg (by omega)]) dX3_firstOf_86
      · skip
        refine k_bipush F dX3_firstOf_80 (by decide +kernel) ?_
        refine lv_goto (tgt := 86) F.1 F.2.1 dX3_firstOf_82 (by decide) ?_
        exact k_ret F hr hlocks (by unfold foM; first | rw [if_pos (by omega)] | rw [if_neg (by omega)]) dX3_firstOf_86
    · intro k hk9 ih ls hl
      have hb := hsg k hk9
      have hf := hfr k (by omega)
      refine lv_iload F.1 F.2.1 dX3_firstOf_5 (lv_at hl 0 rfl) ?_
      refine lv_aload_n F.1 F.2.1 dX3_firstOf_7 rfl (lv_at hl 2 rfl) ?_
      refine k_get F hK hP iX3 0 rfl rfl 1 (by decide) f42 rfl rfl dX3_firstOf_8 ?_
      refine k_icmp_ge F (tgt := 76) dX3_firstOf_11 (by decide) (by omega) (by omega) (fun c_5 => absurd c_5 (by omega)) (fun c_5 => ?_)
      refine lv_aload_n F.1 F.2.1 dX3_firstOf_14 rfl (lv_at hl 2 rfl) ?_
      refine k_get F hK hP iX3 0 rfl rfl 2 (by decide) f7 rfl rfl dX3_firstOf_15 ?_
      refine lv_iload F.1 F.2.1 dX3_firstOf_18 (lv_at hl 0 rfl) ?_
      refine k_iald F hK hP 1 rfl k (by omega) (by omega) (by decide) rfl dX3_firstOf_20 ?_
      refine lv_iload_n F.1 F.2.1 dX3_firstOf_21 rfl (lv_at hl 3 rfl) ?_
      refine k_icmp_ne F (tgt := 39) dX3_firstOf_22 (by decide) (by omega) (by omega) (fun c_6 => ?_) (fun c_6 => ?_)
      · skip
        refine k_iconst F dX3_firstOf_39 ?_
        refine lv_istore (lv' := [(5, .int (iI 0)), (4, .int (iI (k : Int))), (3, .int (iI (foA σ v d k))), (0, .ref (A 0)), (1, .int (iI v)), (2, .int (iI d))]) F.1 F.2.1 dX3_firstOf_40 hl (by decide) rfl (fun ls hl => ?_)
        refine lv_iload F.1 F.2.1 dX3_firstOf_42 (lv_at hl 0 rfl) ?_
        refine k_if_eq F (tgt := 68) dX3_firstOf_44 (by decide) (by decide) (fun c_7 => ?_) (fun c_7 => absurd c_7 (by omega))
        refine lv_iload_n F.1 F.2.1 dX3_firstOf_68 rfl (lv_at hl 2 rfl) ?_
        refine lv_istore_n (lv' := [(3, .int (iI (foA σ v d k))), (5, .int (iI 0)), (4, .int (iI (k : Int))), (0, .ref (A 0)), (1, .int (iI v)), (2, .int (iI d))]) F.1 F.2.1 dX3_firstOf_69 rfl hl (by decide) rfl (fun ls hl => ?_)
        refine lv_iinc (v := iI ((k : Int) + 1)) (lv' := [(4, .int (iI ((k : Int) + 1))), (3, .int (iI (foA σ v d k))), (5, .int (iI 0)), (0, .ref (A 0)), (1, .int (iI v)), (2, .int (iI d))]) F.1 F.2.1 dX3_firstOf_70 hl (k := 2) rfl (iI_add _ _) (by decide) rfl (fun ls hl => ?_)
        refine lv_goto (tgt := 5) F.1 F.2.1 dX3_firstOf_73 (by decide) ?_
        have e_8 : (((k : Int) + 1) : Int) = ((k + 1 : Nat) : Int) := rfl
        have e_9 : (foA σ v d k : Int) = foA σ v d (k + 1) := by rw [foA_s]; first | exact (if_pos ⟨sgs_t (by assumption) (by assumption), by omega⟩).symm | exact (if_neg (fun q => by have := q.2; omega)).symm | exact (if_neg (fun q => by rw [sgs_f1 (by assumption)] at q; exact absurd q.1 (by decide))).symm | exact (if_neg (fun q => by rw [sgs_f2 (by assumption)] at q; exact absurd q.1 (by decide))).symm
        exact ih _ (lv_to (lv_sub hl [0, 1, 3, 4, 5] rfl) (by rw [e_8, e_9] <;> rfl))
      · skip
        refine lv_aload_n F.1 F.2.1 dX3_firstOf_25 rfl (lv_at hl 2 rfl) ?_
        refine lv_iload F.1 F.2.1 dX3_firstOf_26 (lv_at hl 0 rfl) ?_
        refine lv_iload_n F.1 F.2.1 dX3_firstOf_28 rfl (lv_at hl 4 rfl) ?_
        refine rd_V F (n := 2) (w0 := []) (mX3_isThere l G A σ k d (by omega)) gX3_firstOf_X3_isThere rfl rfl rfl (by decide +kernel) ⟨Nat.le_of_ble_eq_true rfl, Nat.le_of_ble_eq_true rfl⟩ hK hP (ci := 3) (q0 := 0) rfl rfl rfl rfl hl.1 (Nat.le_of_ble_eq_true rfl) dX3_firstOf_29 ⟨Nat.zero_le _, Nat.zero_le _⟩ ?_
        refine k_ifb_eq F (tgt := 39) dX3_firstOf_32 (by decide) (fun c_10 => ?_) (fun c_10 => ?_)
        · skip
          refine k_iconst F dX3_firstOf_39 ?_
          refine lv_istore (lv' := [(5, .int (iI 0)), (4, .int (iI (k : Int))), (3, .int (iI (foA σ v d k))), (0, .ref (A 0)), (1, .int (iI v)), (2, .int (iI d))]) F.1 F.2.1 dX3_firstOf_40 hl (by decide) rfl (fun ls hl => ?_)
          refine lv_iload F.1 F.2.1 dX3_firstOf_42 (lv_at hl 0 rfl) ?_
          refine k_if_eq F (tgt := 68) dX3_firstOf_44 (by decide) (by decide) (fun c_11 => ?_) (fun c_11 => absurd c_11 (by omega))
          refine lv_iload_n F.1 F.2.1 dX3_firstOf_68 rfl (lv_at hl 2 rfl) ?_
          refine lv_istore_n (lv' := [(3, .int (iI (foA σ v d k))), (5, .int (iI 0)), (4, .int (iI (k : Int))), (0, .ref (A 0)), (1, .int (iI v)), (2, .int (iI d))]) F.1 F.2.1 dX3_firstOf_69 rfl hl (by decide) rfl (fun ls hl => ?_)
          refine lv_iinc (v := iI ((k : Int) + 1)) (lv' := [(4, .int (iI ((k : Int) + 1))), (3, .int (iI (foA σ v d k))), (5, .int (iI 0)), (0, .ref (A 0)), (1, .int (iI v)), (2, .int (iI d))]) F.1 F.2.1 dX3_firstOf_70 hl (k := 2) rfl (iI_add _ _) (by decide) rfl (fun ls hl => ?_)
          refine lv_goto (tgt := 5) F.1 F.2.1 dX3_firstOf_73 (by decide) ?_
          have e_12 : (((k : Int) + 1) : Int) = ((k + 1 : Nat) : Int) := rfl
          have e_13 : (foA σ v d k : Int) = foA σ v d (k + 1) := by rw [foA_s]; first | exact (if_pos ⟨sgs_t (by assumption) (by assumption), by omega⟩).symm | exact (if_neg (fun q => by have := q.2; omega)).symm | exact (if_neg (fun q => by rw [sgs_f1 (by assumption)] at q; exact absurd q.1 (by decide))).symm | exact (if_neg (fun q => by rw [sgs_f2 (by assumption)] at q; exact absurd q.1 (by decide))).symm
          exact ih _ (lv_to (lv_sub hl [0, 1, 3, 4, 5] rfl) (by rw [e_12, e_13] <;> rfl))
        · skip
          refine k_iconst F dX3_firstOf_35 ?_
          refine lv_goto (tgt := 40) F.1 F.2.1 dX3_firstOf_36 (by decide) ?_
          refine lv_istore (lv' := [(5, .int (iI 1)), (4, .int (iI (k : Int))), (3, .int (iI (foA σ v d k))), (0, .ref (A 0)), (1, .int (iI v)), (2, .int (iI d))]) F.1 F.2.1 dX3_firstOf_40 hl (by decide) rfl (fun ls hl => ?_)
          refine lv_iload F.1 F.2.1 dX3_firstOf_42 (lv_at hl 0 rfl) ?_
          refine k_if_eq F (tgt := 68) dX3_firstOf_44 (by decide) (by decide) (fun c_14 => absurd c_14 (by omega)) (fun c_14 => ?_)
          refine lv_aload_n F.1 F.2.1 dX3_firstOf_47 rfl (lv_at hl 3 rfl) ?_
          refine k_get F hK hP iX3 0 rfl rfl 3 (by decide) f13 rfl rfl dX3_firstOf_48 ?_
          refine lv_iload F.1 F.2.1 dX3_firstOf_51 (lv_at hl 1 rfl) ?_
          refine k_iald F hK hP 2 rfl k (by omega) (by omega) (by decide) rfl dX3_firstOf_53 ?_
          refine lv_iload_n F.1 F.2.1 dX3_firstOf_54 rfl (lv_at hl 2 rfl) ?_
          refine k_icmp_le F (tgt := 68) dX3_firstOf_55 (by decide) (by omega) (by omega) (fun c_15 => ?_) (fun c_15 => ?_)
          · skip
            refine lv_iload_n F.1 F.2.1 dX3_firstOf_68 rfl (lv_at hl 2 rfl) ?_
            refine lv_istore_n (lv' := [(3, .int (iI (foA σ v d k))), (5, .int (iI 1)), (4, .int (iI (k : Int))), (0, .ref (A 0)), (1, .int (iI v)), (2, .int (iI d))]) F.1 F.2.1 dX3_firstOf_69 rfl hl (by decide) rfl (fun ls hl => ?_)
            refine lv_iinc (v := iI ((k : Int) + 1)) (lv' := [(4, .int (iI ((k : Int) + 1))), (3, .int (iI (foA σ v d k))), (5, .int (iI 1)), (0, .ref (A 0)), (1, .int (iI v)), (2, .int (iI d))]) F.1 F.2.1 dX3_firstOf_70 hl (k := 2) rfl (iI_add _ _) (by decide) rfl (fun ls hl => ?_)
            refine lv_goto (tgt := 5) F.1 F.2.1 dX3_firstOf_73 (by decide) ?_
            have e_16 : (((k : Int) + 1) : Int) = ((k + 1 : Nat) : Int) := rfl
            have e_17 : (foA σ v d k : Int) = foA σ v d (k + 1) := by rw [foA_s]; first | exact (if_pos ⟨sgs_t (by assumption) (by assumption), by omega⟩).symm | exact (if_neg (fun q => by have := q.2; omega)).symm | exact (if_neg (fun q => by rw [sgs_f1 (by assumption)] at q; exact absurd q.1 (by decide))).symm | exact (if_neg (fun q => by rw [sgs_f2 (by assumption)] at q; exact absurd q.1 (by decide))).symm
            exact ih _ (lv_to (lv_sub hl [0, 1, 3, 4, 5] rfl) (by rw [e_16, e_17] <;> rfl))
          · skip
            refine lv_aload_n F.1 F.2.1 dX3_firstOf_58 rfl (lv_at hl 3 rfl) ?_
            refine k_get F hK hP iX3 0 rfl rfl 3 (by decide) f13 rfl rfl dX3_firstOf_59 ?_
            refine lv_iload F.1 F.2.1 dX3_firstOf_62 (lv_at hl 1 rfl) ?_
            refine k_iald F hK hP 2 rfl k (by omega) (by omega) (by decide) rfl dX3_firstOf_64 ?_
            refine lv_goto (tgt := 69) F.1 F.2.1 dX3_firstOf_65 (by decide) ?_
            refine lv_istore_n (lv' := [(3, .int (iI (σ 4 0 k))), (5, .int (iI 1)), (4, .int (iI (k : Int))), (0, .ref (A 0)), (1, .int (iI v)), (2, .int (iI d))]) F.1 F.2.1 dX3_firstOf_69 rfl hl (by decide) rfl (fun ls hl => ?_)
            refine lv_iinc (v := iI ((k : Int) + 1)) (lv' := [(4, .int (iI ((k : Int) + 1))), (3, .int (iI (σ 4 0 k))), (5, .int (iI 1)), (0, .ref (A 0)), (1, .int (iI v)), (2, .int (iI d))]) F.1 F.2.1 dX3_firstOf_70 hl (k := 2) rfl (iI_add _ _) (by decide) rfl (fun ls hl => ?_)
            refine lv_goto (tgt := 5) F.1 F.2.1 dX3_firstOf_73 (by decide) ?_
            have e_18 : (((k : Int) + 1) : Int) = ((k + 1 : Nat) : Int) := rfl
            have e_19 : ((σ 4 0 k) : Int) = foA σ v d (k + 1) := by rw [foA_s]; first | exact (if_pos ⟨sgs_t (by assumption) (by assumption), by omega⟩).symm | exact (if_neg (fun q => by have := q.2; omega)).symm | exact (if_neg (fun q => by rw [sgs_f1 (by assumption)] at q; exact absurd q.1 (by decide))).symm | exact (if_neg (fun q => by rw [sgs_f2 (by assumption)] at q; exact absurd q.1 (by decide))).symm
            exact ih _ (lv_to (lv_sub hl [0, 1, 3, 4, 5] rfl) (by rw [e_18, e_19] <;> rfl))
  have e_20 : (0 : Int) = ((0 : Nat) : Int) := rfl
  have e_21 : ((-1) : Int) = foA σ v d 0 := rfl
  exact J_1 0 (by omega) _ (lv_to (lv_sub hl [0, 1, 2, 3, 4] rfl) (by rw [e_20, e_21] <;> rfl))

set_option maxHeartbeats 4000000 in
set_option maxRecDepth 100000 in
theorem mX3_lastOf (l : Launch) (G : gT) (A : Nat → Nat) (σ : Sg) (v d : Int) (hv : -2147483648 ≤ v ∧ v < 2147483648) {n k N : Nat} (hI : Iv σ n k N) : Met l yX3_lastOf wsX3_lastOf { frames := 1, cells := 0, slots := 0, locals := 22 } (va_Pc [.ref (A 0), .int (iI v), .int (iI d)] (rB G (MW G A σ))) (oI (laA σ v d n)) 0 0 (fun _ => False) := by
  refine rd_start (own := RX3) (cc := cX3_lastOf) (mL := 6) (ret := (some .int)) (by decide) rfl rfl (Nat.le_of_ble_eq_true rfl) ?_
  intro p e s m args below meth c ls F hr hlocks hP hK hl
  obtain ⟨hn, hn12, hk, hk6, hsg, haw, hch, hch1, hch0, htn, hto, htz, hpr, hN, hpz, hle, hlz⟩ := id hI
  have hfr := laA_rg (σ := σ) (v := v) (d := d) (n := n) (fun j hj => by have := hsg j hj; omega)
  have iX3 : ∀ x ∈ wsX30, x ∈ wsX3_lastOf := by decide +kernel
  have f7 := k_cond F (w := .fieldLink RX3 7 "ChoirPlannerModel" "voiceOf" "[I") (by decide +kernel)
  have f16 := k_cond F (w := .fieldLink RX3 16 "ChoirPlannerModel" "highs" "[I") (by decide +kernel)
  have f42 := k_cond F (w := .fieldLink RX3 42 "ChoirPlannerModel" "singers" "I") (by decide +kernel)
  have hl : lv_has ls 6 [(0, .ref (A 0)), (1, .int (iI v)), (2, .int (iI d))] := hl
  refine k_bipush F dX3_lastOf_0 (by decide +kernel) ?_
  refine lv_istore_n (lv' := [(3, .int (iI 60)), (0, .ref (A 0)), (1, .int (iI v)), (2, .int (iI d))]) F.1 F.2.1 dX3_lastOf_2 rfl hl (by decide) rfl (fun ls hl => ?_)
  refine k_iconst F dX3_lastOf_3 ?_
  refine lv_istore (lv' := [(4, .int (iI 0)), (3, .int (iI 60)), (0, .ref (A 0)), (1, .int (iI v)), (2, .int (iI d))]) F.1 F.2.1 dX3_lastOf_4 hl (by decide) rfl (fun ls hl => ?_)
  have J_1 : ∀ k : Nat, k ≤ n → ∀ ls : Array Slot, lv_has ls 6 [(4, .int (iI (k : Int))), (3, .int (iI (laA σ v d k))), (0, .ref (A 0)), (1, .int (iI v)), (2, .int (iI d))] → W p l e ({ frames := 1, cells := 0, slots := 0, locals := 22 }) s m args below meth c s.heap [] 0 0 (MQ below (oI (laA σ v d n)) args s 0 0 (fun _ => False)) (F0 m 6 ls []) := by
    refine lp_up (n) ?_ ?_
    · intro ls hl
      have hf := hfr n (by omega)
      refine lv_iload F.1 F.2.1 dX3_lastOf_6 (lv_at hl 0 rfl) ?_
      refine lv_aload_n F.1 F.2.1 dX3_lastOf_8 rfl (lv_at hl 2 rfl) ?_
      refine k_get F hK hP iX3 0 rfl rfl 1 (by decide) f42 rfl rfl dX3_lastOf_9 ?_
      refine k_icmp_ge F (tgt := 77) dX3_lastOf_12 (by decide) (by omega) (by omega) (fun c_3 => ?_) (fun c_3 => absurd c_3 (by omega))
      refine lv_iload_n F.1 F.2.1 dX3_lastOf_77 rfl (lv_at hl 1 rfl) ?_
      exact k_ret F hr hlocks rfl dX3_lastOf_78
    · intro k hk9 ih ls hl
      have hb := hsg k hk9
      have hf := hfr k (by omega)
      refine lv_iload F.1 F.2.1 dX3_lastOf_6 (lv_at hl 0 rfl) ?_
      refine lv_aload_n F.1 F.2.1 dX3_lastOf_8 rfl (lv_at hl 2 rfl) ?_
      refine k_get F hK hP iX3 0 rfl rfl 1 (by decide) f42 rfl rfl dX3_lastOf_9 ?_
      refine k_icmp_ge F (tgt := 77) dX3_lastOf_12 (by decide) (by omega) (by omega) (fun c_4 => absurd c_4 (by omega)) (fun c_4 => ?_)
      refine lv_aload_n F.1 F.2.1 dX3_lastOf_15 rfl (lv_at hl 2 rfl) ?_
      refine k_get F hK hP iX3 0 rfl rfl 2 (by decide) f7 rfl rfl dX3_lastOf_16 ?_
      refine lv_iload F.1 F.2.1 dX3_lastOf_19 (lv_at hl 0 rfl) ?_
      refine k_iald F hK hP 1 rfl k (by omega) (by omega) (by decide) rfl dX3_lastOf_21 ?_
      refine lv_iload_n F.1 F.2.1 dX3_lastOf_22 rfl (lv_at hl 3 rfl) ?_
      refine k_icmp_ne F (tgt := 40) dX3_lastOf_23 (by decide) (by omega) (by omega) (fun c_5 => ?_) (fun c_5 => ?_)
      · skip
        refine k_iconst F dX3_lastOf_40 ?_
        refine lv_istore (lv' := [(5, .int (iI 0)), (4, .int (iI (k : Int))), (3, .int (iI (laA σ v d k))), (0, .ref (A 0)), (1, .int (iI v)), (2, .int (iI d))]) F.1 F.2.1 dX3_lastOf_41 hl (by decide) rfl (fun ls hl => ?_)
        refine lv_iload F.1 F.2.1 dX3_lastOf_43 (lv_at hl 0 rfl) ?_
        refine k_if_eq F (tgt := 69) dX3_lastOf_45 (by decide) (by decide) (fun c_6 => ?_) (fun c_6 => absurd c_6 (by omega))
        refine lv_iload_n F.1 F.2.1 dX3_lastOf_69 rfl (lv_at hl 2 rfl) ?_
        refine lv_istore_n (lv' := [(3, .int (iI (laA σ v d k))), (5, .int (iI 0)), (4, .int (iI (k : Int))), (0, .ref (A 0)), (1, .int (iI v)), (2, .int (iI d))]) F.1 F.2.1 dX3_lastOf_70 rfl hl (by decide) rfl (fun ls hl => ?_)
        refine lv_iinc (v := iI ((k : Int) + 1)) (lv' := [(4, .int (iI ((k : Int) + 1))), (3, .int (iI (laA σ v d k))), (5, .int (iI 0)), (0, .ref (A 0)), (1, .int (iI v)), (2, .int (iI d))]) F.1 F.2.1 dX3_lastOf_71 hl (k := 2) rfl (iI_add _ _) (by decide) rfl (fun ls hl => ?_)
        refine lv_goto (tgt := 6) F.1 F.2.1 dX3_lastOf_74 (by decide) ?_
        have e_7 : (((k : Int) + 1) : Int) = ((k + 1 : Nat) : Int) := rfl
        have e_8 : (laA σ v d k : Int) = laA σ v d (k + 1) := by rw [laA_s]; first | exact (if_pos ⟨sgs_t (by assumption) (by assumption), by omega⟩).symm | exact (if_neg (fun q => by have := q.2; omega)).symm | exact (if_neg (fun q => by rw [sgs_f1 (by assumption)] at q; exact absurd q.1 (by decide))).symm | exact (if_neg (fun q => by rw [sgs_f2 (by assumption)] at q; exact absurd q.1 (by decide))).symm
        exact ih _ (lv_to (lv_sub hl [0, 1, 3, 4, 5] rfl) (by rw [e_7, e_8] <;> rfl))
      · skip
        refine lv_aload_n F.1 F.2.1 dX3_lastOf_26 rfl (lv_at hl 2 rfl) ?_
        refine lv_iload F.1 F.2.1 dX3_lastOf_27 (lv_at hl 0 rfl) ?_
        refine lv_iload_n F.1 F.2.1 dX3_lastOf_29 rfl (lv_at hl 4 rfl) ?_
        refine rd_V F (n := 2) (w0 := []) (mX3_isThere l G A σ k d (by omega)) gX3_lastOf_X3_isThere rfl rfl rfl (by decide +kernel) ⟨Nat.le_of_ble_eq_true rfl, Nat.le_of_ble_eq_true rfl⟩ hK hP (ci := 3) (q0 := 0) rfl rfl rfl rfl hl.1 (Nat.le_of_ble_eq_true rfl) dX3_lastOf_30 ⟨Nat.zero_le _, Nat.zero_le _⟩ ?_
        refine k_ifb_eq F (tgt := 40) dX3_lastOf_33 (by decide) (fun c_9 => ?_) (fun c_9 => ?_)
        · skip
          refine k_iconst F dX3_lastOf_40 ?_
          refine lv_istore (lv' := [(5, .int (iI 0)), (4, .int (iI (k : Int))), (3, .int (iI (laA σ v d k))), (0, .ref (A 0)), (1, .int (iI v)), (2, .int (iI d))]) F.1 F.2.1 dX3_lastOf_41 hl (by decide) rfl (fun ls hl => ?_)
          refine lv_iload F.1 F.2.1 dX3_lastOf_43 (lv_at hl 0 rfl) ?_
          refine k_if_eq F (tgt := 69) dX3_lastOf_45 (by decide) (by decide) (fun c_10 => ?_) (fun c_10 => absurd c_10 (by omega))
          refine lv_iload_n F.1 F.2.1 dX3_lastOf_69 rfl (lv_at hl 2 rfl) ?_
          refine lv_istore_n (lv' := [(3, .int (iI (laA σ v d k))), (5, .int (iI 0)), (4, .int (iI (k : Int))), (0, .ref (A 0)), (1, .int (iI v)), (2, .int (iI d))]) F.1 F.2.1 dX3_lastOf_70 rfl hl (by decide) rfl (fun ls hl => ?_)
          refine lv_iinc (v := iI ((k : Int) + 1)) (lv' := [(4, .int (iI ((k : Int) + 1))), (3, .int (iI (laA σ v d k))), (5, .int (iI 0)), (0, .ref (A 0)), (1, .int (iI v)), (2, .int (iI d))]) F.1 F.2.1 dX3_lastOf_71 hl (k := 2) rfl (iI_add _ _) (by decide) rfl (fun ls hl => ?_)
          refine lv_goto (tgt := 6) F.1 F.2.1 dX3_lastOf_74 (by decide) ?_
          have e_11 : (((k : Int) + 1) : Int) = ((k + 1 : Nat) : Int) := rfl
          have e_12 : (laA σ v d k : Int) = laA σ v d (k + 1) := by rw [laA_s]; first | exact (if_pos ⟨sgs_t (by assumption) (by assumption), by omega⟩).symm | exact (if_neg (fun q => by have := q.2; omega)).symm | exact (if_neg (fun q => by rw [sgs_f1 (by assumption)] at q; exact absurd q.1 (by decide))).symm | exact (if_neg (fun q => by rw [sgs_f2 (by assumption)] at q; exact absurd q.1 (by decide))).symm
          exact ih _ (lv_to (lv_sub hl [0, 1, 3, 4, 5] rfl) (by rw [e_11, e_12] <;> rfl))
        · skip
          refine k_iconst F dX3_lastOf_36 ?_
          refine lv_goto (tgt := 41) F.1 F.2.1 dX3_lastOf_37 (by decide) ?_
          refine lv_istore (lv' := [(5, .int (iI 1)), (4, .int (iI (k : Int))), (3, .int (iI (laA σ v d k))), (0, .ref (A 0)), (1, .int (iI v)), (2, .int (iI d))]) F.1 F.2.1 dX3_lastOf_41 hl (by decide) rfl (fun ls hl => ?_)
          refine lv_iload F.1 F.2.1 dX3_lastOf_43 (lv_at hl 0 rfl) ?_
          refine k_if_eq F (tgt := 69) dX3_lastOf_45 (by decide) (by decide) (fun c_13 => absurd c_13 (by omega)) (fun c_13 => ?_)
          refine lv_aload_n F.1 F.2.1 dX3_lastOf_48 rfl (lv_at hl 3 rfl) ?_
          refine k_get F hK hP iX3 0 rfl rfl 4 (by decide) f16 rfl rfl dX3_lastOf_49 ?_
          refine lv_iload F.1 F.2.1 dX3_lastOf_52 (lv_at hl 1 rfl) ?_
          refine k_iald F hK hP 3 rfl k (by omega) (by omega) (by decide) rfl dX3_lastOf_54 ?_
          refine lv_iload_n F.1 F.2.1 dX3_lastOf_55 rfl (lv_at hl 2 rfl) ?_
          refine k_icmp_ge F (tgt := 69) dX3_lastOf_56 (by decide) (by omega) (by omega) (fun c_14 => ?_) (fun c_14 => ?_)
          · skip
            refine lv_iload_n F.1 F.2.1 dX3_lastOf_69 rfl (lv_at hl 2 rfl) ?_
            refine lv_istore_n (lv' := [(3, .int (iI (laA σ v d k))), (5, .int (iI 1)), (4, .int (iI (k : Int))), (0, .ref (A 0)), (1, .int (iI v)), (2, .int (iI d))]) F.1 F.2.1 dX3_lastOf_70 rfl hl (by decide) rfl (fun ls hl => ?_)
            refine lv_iinc (v := iI ((k : Int) + 1)) (lv' := [(4, .int (iI ((k : Int) + 1))), (3, .int (iI (laA σ v d k))), (5, .int (iI 1)), (0, .ref (A 0)), (1, .int (iI v)), (2, .int (iI d))]) F.1 F.2.1 dX3_lastOf_71 hl (k := 2) rfl (iI_add _ _) (by decide) rfl (fun ls hl => ?_)
            refine lv_goto (tgt := 6) F.1 F.2.1 dX3_lastOf_74 (by decide) ?_
            have e_15 : (((k : Int) + 1) : Int) = ((k + 1 : Nat) : Int) := rfl
            have e_16 : (laA σ v d k : Int) = laA σ v d (k + 1) := by rw [laA_s]; first | exact (if_pos ⟨sgs_t (by assumption) (by assumption), by omega⟩).symm | exact (if_neg (fun q => by have := q.2; omega)).symm | exact (if_neg (fun q => by rw [sgs_f1 (by assumption)] at q; exact absurd q.1 (by decide))).symm | exact (if_neg (fun q => by rw [sgs_f2 (by assumption)] at q; exact absurd q.1 (by decide))).symm
            exact ih _ (lv_to (lv_sub hl [0, 1, 3, 4, 5] rfl) (by rw [e_15, e_16] <;> rfl))
          · skip
            refine lv_aload_n F.1 F.2.1 dX3_lastOf_59 rfl (lv_at hl 3 rfl) ?_
            refine k_get F hK hP iX3 0 rfl rfl 4 (by decide) f16 rfl rfl dX3_lastOf_60 ?_
            refine lv_iload F.1 F.2.1 dX3_lastOf_63 (lv_at hl 1 rfl) ?_
            refine k_iald F hK hP 3 rfl k (by omega) (by omega) (by decide) rfl dX3_lastOf_65 ?_
            refine lv_goto (tgt := 70) F.1 F.2.1 dX3_lastOf_66 (by decide) ?_
            refine lv_istore_n (lv' := [(3, .int (iI (σ 5 0 k))), (5, .int (iI 1)), (4, .int (iI (k : Int))), (0, .ref (A 0)), (1, .int (iI v)), (2, .int (iI d))]) F.1 F.2.1 dX3_lastOf_70 rfl hl (by decide) rfl (fun ls hl => ?_)
            refine lv_iinc (v := iI ((k : Int) + 1)) (lv' := [(4, .int (iI ((k : Int) + 1))), (3, .int (iI (σ 5 0 k))), (5, .int (iI 1)), (0, .ref (A 0)), (1, .int (iI v)), (2, .int (iI d))]) F.1 F.2.1 dX3_lastOf_71 hl (k := 2) rfl (iI_add _ _) (by decide) rfl (fun ls hl => ?_)
            refine lv_goto (tgt := 6) F.1 F.2.1 dX3_lastOf_74 (by decide) ?_
            have e_17 : (((k : Int) + 1) : Int) = ((k + 1 : Nat) : Int) := rfl
            have e_18 : ((σ 5 0 k) : Int) = laA σ v d (k + 1) := by rw [laA_s]; first | exact (if_pos ⟨sgs_t (by assumption) (by assumption), by omega⟩).symm | exact (if_neg (fun q => by have := q.2; omega)).symm | exact (if_neg (fun q => by rw [sgs_f1 (by assumption)] at q; exact absurd q.1 (by decide))).symm | exact (if_neg (fun q => by rw [sgs_f2 (by assumption)] at q; exact absurd q.1 (by decide))).symm
            exact ih _ (lv_to (lv_sub hl [0, 1, 3, 4, 5] rfl) (by rw [e_17, e_18] <;> rfl))
  have e_19 : (0 : Int) = ((0 : Nat) : Int) := rfl
  have e_20 : (60 : Int) = laA σ v d 0 := rfl
  exact J_1 0 (by omega) _ (lv_to (lv_sub hl [0, 1, 2, 3, 4] rfl) (by rw [e_19, e_20] <;> rfl))
end
