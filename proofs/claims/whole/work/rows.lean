section
-- ===== PART A: goes FIRST, ahead of the names: the tables' words, and 'selects' of the private methods out of them =====
/-- a private method of a class that the tables say can be made, by its rows of tables_1 -/
def lw_okq (q : MethodName × Nat) : Prop := (q.1.cls ≠ "java/lang/invoke/MethodHandle" ∧ q.1.cls ≠ "java/lang/invoke/VarHandle") ∧ Cond.instantiable q.1.cls q.2 ∈ tables_1 ∧ Cond.privateMethod q.1 ∈ tables_1 ∧ Cond.instanceMethod q.1 ∈ tables_1
theorem lw_p0 : lw_okq (⟨"GustMill$State", "isAhead", "(II)Z"⟩, 16) := ⟨⟨by decide +kernel, by decide +kernel⟩, List.mem_of_getElem? (i := 21) (by decide +kernel), List.mem_of_getElem? (i := 150) (by decide +kernel), List.mem_of_getElem? (i := 151) (by decide +kernel)⟩
theorem lw_p1 : lw_okq (⟨"java/lang/Throwable", "fillInStackTrace", "(I)Ljava/lang/Throwable;"⟩, 6) := ⟨⟨by decide +kernel, by decide +kernel⟩, List.mem_of_getElem? (i := 214) (by decide +kernel), List.mem_of_getElem? (i := 212) (by decide +kernel), List.mem_of_getElem? (i := 213) (by decide +kernel)⟩
theorem lw_p2 : lw_okq (⟨"GustMill$State", "takeOffUnwanted", "()V"⟩, 16) := ⟨⟨by decide +kernel, by decide +kernel⟩, List.mem_of_getElem? (i := 21) (by decide +kernel), List.mem_of_getElem? (i := 255) (by decide +kernel), List.mem_of_getElem? (i := 256) (by decide +kernel)⟩
theorem lw_p3 : lw_okq (⟨"GustMill$State", "fillStones", "()V"⟩, 16) := ⟨⟨by decide +kernel, by decide +kernel⟩, List.mem_of_getElem? (i := 21) (by decide +kernel), List.mem_of_getElem? (i := 267) (by decide +kernel), List.mem_of_getElem? (i := 268) (by decide +kernel)⟩
theorem lw_p4 : lw_okq (⟨"GustMill$State", "grind", "()I"⟩, 16) := ⟨⟨by decide +kernel, by decide +kernel⟩, List.mem_of_getElem? (i := 21) (by decide +kernel), List.mem_of_getElem? (i := 272) (by decide +kernel), List.mem_of_getElem? (i := 273) (by decide +kernel)⟩
theorem lw_p5 : lw_okq (⟨"GustMill$State", "finishSacks", "()V"⟩, 16) := ⟨⟨by decide +kernel, by decide +kernel⟩, List.mem_of_getElem? (i := 21) (by decide +kernel), List.mem_of_getElem? (i := 280) (by decide +kernel), List.mem_of_getElem? (i := 281) (by decide +kernel)⟩
theorem lw_p6 : lw_okq (⟨"GustMill", "mixSacks", "(J)J"⟩, 2) := ⟨⟨by decide +kernel, by decide +kernel⟩, List.mem_of_getElem? (i := 13) (by decide +kernel), List.mem_of_getElem? (i := 335) (by decide +kernel), List.mem_of_getElem? (i := 336) (by decide +kernel)⟩
theorem lw_p7 : lw_okq (⟨"GustMill", "lookAhead", "()V"⟩, 2) := ⟨⟨by decide +kernel, by decide +kernel⟩, List.mem_of_getElem? (i := 13) (by decide +kernel), List.mem_of_getElem? (i := 339) (by decide +kernel), List.mem_of_getElem? (i := 340) (by decide +kernel)⟩
theorem lw_p8 : lw_okq (⟨"GustMill", "requireSack", "(I)V"⟩, 2) := ⟨⟨by decide +kernel, by decide +kernel⟩, List.mem_of_getElem? (i := 13) (by decide +kernel), List.mem_of_getElem? (i := 347) (by decide +kernel), List.mem_of_getElem? (i := 348) (by decide +kernel)⟩
theorem lw_p9 : lw_okq (⟨"GustMillModel", "fail", "(I)I"⟩, 12) := ⟨⟨by decide +kernel, by decide +kernel⟩, List.mem_of_getElem? (i := 525) (by decide +kernel), List.mem_of_getElem? (i := 579) (by decide +kernel), List.mem_of_getElem? (i := 580) (by decide +kernel)⟩
theorem lw_p10 : lw_okq (⟨"GustMillModel", "put", "(III)V"⟩, 12) := ⟨⟨by decide +kernel, by decide +kernel⟩, List.mem_of_getElem? (i := 525) (by decide +kernel), List.mem_of_getElem? (i := 599) (by decide +kernel), List.mem_of_getElem? (i := 600) (by decide +kernel)⟩
theorem lw_p11 : lw_okq (⟨"GustMillModel", "isSack", "(I)Z"⟩, 12) := ⟨⟨by decide +kernel, by decide +kernel⟩, List.mem_of_getElem? (i := 525) (by decide +kernel), List.mem_of_getElem? (i := 607) (by decide +kernel), List.mem_of_getElem? (i := 608) (by decide +kernel)⟩
theorem lw_p12 : lw_okq (⟨"GustMillModel", "hoursOn", "(I)V"⟩, 12) := ⟨⟨by decide +kernel, by decide +kernel⟩, List.mem_of_getElem? (i := 525) (by decide +kernel), List.mem_of_getElem? (i := 619) (by decide +kernel), List.mem_of_getElem? (i := 620) (by decide +kernel)⟩
theorem lw_p13 : lw_okq (⟨"GustMillModel", "hourOn", "()V"⟩, 12) := ⟨⟨by decide +kernel, by decide +kernel⟩, List.mem_of_getElem? (i := 525) (by decide +kernel), List.mem_of_getElem? (i := 623) (by decide +kernel), List.mem_of_getElem? (i := 624) (by decide +kernel)⟩
theorem lw_p14 : lw_okq (⟨"GustMillModel", "ahead", "(I)I"⟩, 12) := ⟨⟨by decide +kernel, by decide +kernel⟩, List.mem_of_getElem? (i := 525) (by decide +kernel), List.mem_of_getElem? (i := 627) (by decide +kernel), List.mem_of_getElem? (i := 628) (by decide +kernel)⟩
theorem lw_p15 : lw_okq (⟨"GustMillModel", "isDone", "(I)Z"⟩, 12) := ⟨⟨by decide +kernel, by decide +kernel⟩, List.mem_of_getElem? (i := 525) (by decide +kernel), List.mem_of_getElem? (i := 631) (by decide +kernel), List.mem_of_getElem? (i := 632) (by decide +kernel)⟩
def lw_privs_1 : List (MethodName × Nat) := [(⟨"GustMill$State", "isAhead", "(II)Z"⟩, 16), (⟨"java/lang/Throwable", "fillInStackTrace", "(I)Ljava/lang/Throwable;"⟩, 6), (⟨"GustMill$State", "takeOffUnwanted", "()V"⟩, 16), (⟨"GustMill$State", "fillStones", "()V"⟩, 16), (⟨"GustMill$State", "grind", "()I"⟩, 16), (⟨"GustMill$State", "finishSacks", "()V"⟩, 16), (⟨"GustMill", "mixSacks", "(J)J"⟩, 2), (⟨"GustMill", "lookAhead", "()V"⟩, 2), (⟨"GustMill", "requireSack", "(I)V"⟩, 2), (⟨"GustMillModel", "fail", "(I)I"⟩, 12), (⟨"GustMillModel", "put", "(III)V"⟩, 12), (⟨"GustMillModel", "isSack", "(I)Z"⟩, 12), (⟨"GustMillModel", "hoursOn", "(I)V"⟩, 12), (⟨"GustMillModel", "hourOn", "()V"⟩, 12), (⟨"GustMillModel", "ahead", "(I)I"⟩, 12), (⟨"GustMillModel", "isDone", "(I)Z"⟩, 12)]
theorem lw_r1 : ∀ q ∈ lw_privs_1, lw_okq q := List.forall_mem_cons.mpr ⟨lw_p0, List.forall_mem_cons.mpr ⟨lw_p1, List.forall_mem_cons.mpr ⟨lw_p2, List.forall_mem_cons.mpr ⟨lw_p3, List.forall_mem_cons.mpr ⟨lw_p4, List.forall_mem_cons.mpr ⟨lw_p5, List.forall_mem_cons.mpr ⟨lw_p6, List.forall_mem_cons.mpr ⟨lw_p7, List.forall_mem_cons.mpr ⟨lw_p8, List.forall_mem_cons.mpr ⟨lw_p9, List.forall_mem_cons.mpr ⟨lw_p10, List.forall_mem_cons.mpr ⟨lw_p11, List.forall_mem_cons.mpr ⟨lw_p12, List.forall_mem_cons.mpr ⟨lw_p13, List.forall_mem_cons.mpr ⟨lw_p14, List.forall_mem_cons.mpr ⟨lw_p15, fun _ h => absurd h List.not_mem_nil⟩⟩⟩⟩⟩⟩⟩⟩⟩⟩⟩⟩⟩⟩⟩⟩
theorem lw_p16 : lw_okq (⟨"GustMillModel", "turn", "(I)I"⟩, 12) := ⟨⟨by decide +kernel, by decide +kernel⟩, List.mem_of_getElem? (i := 525) (by decide +kernel), List.mem_of_getElem? (i := 635) (by decide +kernel), List.mem_of_getElem? (i := 636) (by decide +kernel)⟩
theorem lw_p17 : lw_okq (⟨"GustMillModel", "on", "(I)I"⟩, 12) := ⟨⟨by decide +kernel, by decide +kernel⟩, List.mem_of_getElem? (i := 525) (by decide +kernel), List.mem_of_getElem? (i := 639) (by decide +kernel), List.mem_of_getElem? (i := 640) (by decide +kernel)⟩
theorem lw_p18 : lw_okq (⟨"GustMillModel", "next", "(Z)I"⟩, 12) := ⟨⟨by decide +kernel, by decide +kernel⟩, List.mem_of_getElem? (i := 525) (by decide +kernel), List.mem_of_getElem? (i := 643) (by decide +kernel), List.mem_of_getElem? (i := 644) (by decide +kernel)⟩
theorem lw_p19 : lw_okq (⟨"GustMillModel", "told", "(I)I"⟩, 12) := ⟨⟨by decide +kernel, by decide +kernel⟩, List.mem_of_getElem? (i := 525) (by decide +kernel), List.mem_of_getElem? (i := 652) (by decide +kernel), List.mem_of_getElem? (i := 653) (by decide +kernel)⟩
theorem lw_p20 : lw_okq (⟨"GustMillModel", "isStone", "(I)Z"⟩, 12) := ⟨⟨by decide +kernel, by decide +kernel⟩, List.mem_of_getElem? (i := 525) (by decide +kernel), List.mem_of_getElem? (i := 676) (by decide +kernel), List.mem_of_getElem? (i := 677) (by decide +kernel)⟩
theorem lw_p21 : lw_okq (⟨"GustMillModel", "of", "(II)I"⟩, 12) := ⟨⟨by decide +kernel, by decide +kernel⟩, List.mem_of_getElem? (i := 525) (by decide +kernel), List.mem_of_getElem? (i := 684) (by decide +kernel), List.mem_of_getElem? (i := 685) (by decide +kernel)⟩
theorem lw_p22 : lw_okq (⟨"GustMillModel", "done", "()I"⟩, 12) := ⟨⟨by decide +kernel, by decide +kernel⟩, List.mem_of_getElem? (i := 525) (by decide +kernel), List.mem_of_getElem? (i := 704) (by decide +kernel), List.mem_of_getElem? (i := 705) (by decide +kernel)⟩
theorem lw_p23 : lw_okq (⟨"GustMillModel", "place", "(I)I"⟩, 12) := ⟨⟨by decide +kernel, by decide +kernel⟩, List.mem_of_getElem? (i := 525) (by decide +kernel), List.mem_of_getElem? (i := 720) (by decide +kernel), List.mem_of_getElem? (i := 721) (by decide +kernel)⟩
theorem lw_p24 : lw_okq (⟨"GustMillModel", "rest", "(I)I"⟩, 12) := ⟨⟨by decide +kernel, by decide +kernel⟩, List.mem_of_getElem? (i := 525) (by decide +kernel), List.mem_of_getElem? (i := 728) (by decide +kernel), List.mem_of_getElem? (i := 729) (by decide +kernel)⟩
theorem lw_p25 : lw_okq (⟨"GustMillModel", "lost", "(I)I"⟩, 12) := ⟨⟨by decide +kernel, by decide +kernel⟩, List.mem_of_getElem? (i := 525) (by decide +kernel), List.mem_of_getElem? (i := 736) (by decide +kernel), List.mem_of_getElem? (i := 737) (by decide +kernel)⟩
theorem lw_p26 : lw_okq (⟨"GustMillModel", "groundThen", "(I)I"⟩, 12) := ⟨⟨by decide +kernel, by decide +kernel⟩, List.mem_of_getElem? (i := 525) (by decide +kernel), List.mem_of_getElem? (i := 745) (by decide +kernel), List.mem_of_getElem? (i := 746) (by decide +kernel)⟩
theorem lw_p27 : lw_okq (⟨"GustMillModel", "keep", "()V"⟩, 12) := ⟨⟨by decide +kernel, by decide +kernel⟩, List.mem_of_getElem? (i := 525) (by decide +kernel), List.mem_of_getElem? (i := 749) (by decide +kernel), List.mem_of_getElem? (i := 750) (by decide +kernel)⟩
theorem lw_p28 : lw_okq (⟨"GustMillModel", "bringBack", "()V"⟩, 12) := ⟨⟨by decide +kernel, by decide +kernel⟩, List.mem_of_getElem? (i := 525) (by decide +kernel), List.mem_of_getElem? (i := 756) (by decide +kernel), List.mem_of_getElem? (i := 757) (by decide +kernel)⟩
theorem lw_p29 : lw_okq (⟨"GustMillModel", "lostBy", "(IZ)I"⟩, 12) := ⟨⟨by decide +kernel, by decide +kernel⟩, List.mem_of_getElem? (i := 525) (by decide +kernel), List.mem_of_getElem? (i := 768) (by decide +kernel), List.mem_of_getElem? (i := 769) (by decide +kernel)⟩
theorem lw_p30 : lw_okq (⟨"GustMillModel", "best", "()I"⟩, 12) := ⟨⟨by decide +kernel, by decide +kernel⟩, List.mem_of_getElem? (i := 525) (by decide +kernel), List.mem_of_getElem? (i := 776) (by decide +kernel), List.mem_of_getElem? (i := 777) (by decide +kernel)⟩
theorem lw_p31 : lw_okq (⟨"GustMillModel", "milledIn", "(I)I"⟩, 12) := ⟨⟨by decide +kernel, by decide +kernel⟩, List.mem_of_getElem? (i := 525) (by decide +kernel), List.mem_of_getElem? (i := 788) (by decide +kernel), List.mem_of_getElem? (i := 789) (by decide +kernel)⟩
def lw_privs_2 : List (MethodName × Nat) := [(⟨"GustMillModel", "turn", "(I)I"⟩, 12), (⟨"GustMillModel", "on", "(I)I"⟩, 12), (⟨"GustMillModel", "next", "(Z)I"⟩, 12), (⟨"GustMillModel", "told", "(I)I"⟩, 12), (⟨"GustMillModel", "isStone", "(I)Z"⟩, 12), (⟨"GustMillModel", "of", "(II)I"⟩, 12), (⟨"GustMillModel", "done", "()I"⟩, 12), (⟨"GustMillModel", "place", "(I)I"⟩, 12), (⟨"GustMillModel", "rest", "(I)I"⟩, 12), (⟨"GustMillModel", "lost", "(I)I"⟩, 12), (⟨"GustMillModel", "groundThen", "(I)I"⟩, 12), (⟨"GustMillModel", "keep", "()V"⟩, 12), (⟨"GustMillModel", "bringBack", "()V"⟩, 12), (⟨"GustMillModel", "lostBy", "(IZ)I"⟩, 12), (⟨"GustMillModel", "best", "()I"⟩, 12), (⟨"GustMillModel", "milledIn", "(I)I"⟩, 12)]
theorem lw_r2 : ∀ q ∈ lw_privs_2, lw_okq q := List.forall_mem_cons.mpr ⟨lw_p16, List.forall_mem_cons.mpr ⟨lw_p17, List.forall_mem_cons.mpr ⟨lw_p18, List.forall_mem_cons.mpr ⟨lw_p19, List.forall_mem_cons.mpr ⟨lw_p20, List.forall_mem_cons.mpr ⟨lw_p21, List.forall_mem_cons.mpr ⟨lw_p22, List.forall_mem_cons.mpr ⟨lw_p23, List.forall_mem_cons.mpr ⟨lw_p24, List.forall_mem_cons.mpr ⟨lw_p25, List.forall_mem_cons.mpr ⟨lw_p26, List.forall_mem_cons.mpr ⟨lw_p27, List.forall_mem_cons.mpr ⟨lw_p28, List.forall_mem_cons.mpr ⟨lw_p29, List.forall_mem_cons.mpr ⟨lw_p30, List.forall_mem_cons.mpr ⟨lw_p31, fun _ h => absurd h List.not_mem_nil⟩⟩⟩⟩⟩⟩⟩⟩⟩⟩⟩⟩⟩⟩⟩⟩
def lw_privs : List (MethodName × Nat) := lw_privs_1 ++ (lw_privs_2)
def lw_tbl : List Cond := k2_sels lw_privs ++ tables_1
theorem lw_privs_ok : ∀ q ∈ lw_privs, lw_okq q := by
  show ∀ q ∈ lw_privs_1 ++ (lw_privs_2), lw_okq q
  exact List.forall_mem_append.mpr ⟨lw_r1, lw_r2⟩
/-- the streams that the claim lets the run draw from -/
abbrev lw_cs : List Choice := [Jvm.Choice.named "NaN.bits"]
theorem lw_bits : nanBits ∈ lw_cs := by first | decide | exact List.mem_cons_self | simp [lw_cs, nanBits]
end
section
/-! ===== BEGIN words of one list among another's, by their places ===== -/
theorem goodIn_r {big : List Cond} (ws : List Cond) (ps : List Nat) (hp : ws = ps.filterMap (fun i => big[i]?)) (h : ws.all goodWord = true) : GoodIn big ws := by
  intro w hw
  have h1 := List.all_eq_true.mp h w hw
  rw [hp] at hw
  obtain ⟨i, -, hi⟩ := List.mem_filterMap.mp hw
  have hm : w ∈ big := by first | exact List.mem_of_getElem? hi | exact List.getElem?_mem hi
  exact ⟨hm, good_of_word h1⟩
theorem goodIn_app {big a b : List Cond} (ha : GoodIn big a) (hb : GoodIn big b) : GoodIn big (a ++ b) := fun w h => (List.mem_append.mp h).elim (ha w) (hb w)
theorem goodIn_ca {big a b : List Cond} {c : Cond} (ha : GoodIn big (c :: a)) (hb : GoodIn big b) : GoodIn big (c :: (a ++ b)) := fun w h => (List.mem_cons.mp h).elim (fun e => ha w (List.mem_cons.mpr (Or.inl e))) (fun h => (List.mem_append.mp h).elim (fun h => ha w (List.mem_cons.mpr (Or.inr h))) (hb w))
theorem goodIn_sub {big ws : List Cond} (hm : ∀ w ∈ ws, w ∈ big) (h : ws.all goodWord = true) : GoodIn big ws := fun w hw => ⟨hm w hw, good_of_word (List.all_eq_true.mp h w hw)⟩
/-! ===== END ===== -/

/-! ===== BEGIN exceptions that leave a method, and their catching by the caller (launches without stack traces) ===== -/
section VXA
/-! The laws vx_back, vx_callV, vx_callS, vx_callSW, vx_throw0, vx_throwS follow proofs of the library, with one case more: JvmDerived/Free/Laws.lean (Back.of_free), Shelf42/LK1.lean (callV, callS), Shelf/KitTraced.lean (throwNew0V, throwNewS). -/
/-- where a method has thrown q: the class by its name, the cell, what was written, the world -/
def vx_T (XC : String → State → State → Prop) (st : State) (q : Addr) (t : State) (mc ms : Nat) (free : Addr → Prop) : Prop :=
  ∃ (E : String) (ce : Cell) (L : List Loc), XC E st t ∧ t.heap[q]? = some ce ∧ ce.vm = .none ∧ st.vm.findClass E = some ce.cls ∧ st.WarmedH t.vm ∧ st.sameButNew ({ t with vm := st.vm } : State) L mc ms ∧ ∀ z ∈ L, free z.base
def vx_Q (Qc : Array Value → State → Outcome → State → Prop) (XC : String → State → State → Prop) (mc ms : Nat) (free : Addr → Prop) : Array Value → State → Outcome → State → Prop := fun a st o t =>
  (Qc a st o t ∧ ∃ L, FrameEnd st o t L mc ms ∧ ∀ q ∈ L, free q.base) ∨ ∃ q, o = .threw q ∧ vx_T XC st q t mc ms free
/-- a callee that returns or throws -/
def vx_Met (l : Launch) (y : MethodName) (ws : List Cond) (rm : Room) (Pc : Array Value → State → Prop) (Qc : Array Value → State → Outcome → State → Prop) (XC : String → State → State → Prop) (mc ms : Nat) (free : Addr → Prop) : Prop :=
  MetFree l y (headSpec ws rm) Pc (fun _ _ _ _ _ => True) (vx_Q Qc XC mc ms free)
def vx_Post (XC : String → State → State → Prop) (mc ms : Nat) (free : Addr → Prop) : Pt → Array Value → Addr → Pt → Prop := fun A a q B =>
  ∃ (g : JFrame) (mk : MethodId) (t : State) (L : List Loc) (E : String) (ce : Cell), B.U.heap = t.heap ∧ B.U.vm = t.vm ∧ XC E (A.U.calling g mk a) t ∧ t.heap[q]? = some ce ∧ ce.vm = .none ∧ A.U.vm.findClass E = some ce.cls ∧ B.locs = A.locs ++ L ∧ (∀ z ∈ L, free z.base) ∧ B.cells = A.cells + mc ∧ B.slots = A.slots + ms
def vx_Back (l : Launch) (R : Room) (p : Program) (e : Env) (below : List Frame) (s : State) (sargs : Array Value) (y : MethodName) (len W9 : Nat)
    (Pre : Pt → Array Value → Prop) (Post : Pt → Array Value → Option Value → Pt → Prop) (PostX : Pt → Array Value → Addr → Pt → Prop) : Prop :=
  ∀ (m : MethodId) (meth : Method) (c : Code) (A : Pt) (g : JFrame) (ig : Instr) (mk : MethodId) (a : Array Value),
    Stand p l e R s m sargs below meth c A.U A.locs A.cells A.slots → g.method = m → g.locals.size = c.maxLocals → decode c.code g.pc = .ok (ig, len) →
    2 * g.monitorRoom + (g.stack.map fun v => v.category).sum ≤ W9 → A.U.methodNamed? y = some mk → Pre A a →
    (∃ (v : Option Value) (B : Pt), Stand p l e R s m sargs below meth c B.U B.locs B.cells B.slots ∧ Post A a v B ∧
      Steps p.tables e below (doInvoke e (A.U.setTop g) [] mk a).1 (B.U.setTop { g with pc := g.pc + len, stack := v.toList ++ g.stack })) ∨
    (∃ (q : Addr) (B : Pt), Stand p l e R s m sargs below meth c B.U B.locs B.cells B.slots ∧ PostX A a q B ∧
      Steps p.tables e below (doInvoke e (A.U.setTop g) [] mk a).1 ((B.U.setTop g).pushFrame (.throwing q)))
section Payer
variable {l : Launch} {R : Room} {p : Program} {e : Env} {below : List Frame} {s : State} {sargs : Array Value} {y : MethodName} {len W9 : Nat}
theorem vx_back {ws : List Cond} {rm : Room} {Pc : Array Value → State → Prop} {Qc : Array Value → State → Outcome → State → Prop} {XC : String → State → State → Prop} {mc ms : Nat} {free : Addr → Prop} {bytes : ByteArray} {maxL : Nat} {ret : Option FieldType}
    (hM : vx_Met l y ws rm Pc Qc XC mc ms free) (hblind : FrameBlind Pc) (hrc : rm.cells = mc) (hrs : rm.slots = ms)
    (hframes : rm.frames + 1 ≤ R.frames) (hlocals : W9 + (maxL + 11) + rm.locals ≤ R.locals)
    (hws : ∀ w ∈ ws, ∀ a' U, s.WarmedH U.vm → w.before a' U = true) (hcode : Cond.code y bytes maxL ret ∈ ws) (hinit : ∀ a' U, s.WarmedH U.vm → (Cond.initialized y.cls).before a' U = true) :
    vx_Back l R p e below s sargs y len W9 (PreOf R mc ms Pc) (PostOf Qc mc ms free) (vx_Post XC mc ms free) := by
  intro m meth c A g ig mk a X hg hsize hdg hW hn hp
  have h1 : (headSpec ws rm).pre.before a A.U = true := atoms_intro fun w hw => hws w hw _ _ X.warmed
  have h2 : (Cond.code y bytes maxL ret).before a A.U = true := hws _ hcode _ _ X.warmed
  have h3 : (Cond.initialized y.cls).before a A.U = true := hinit _ _ X.warmed
  have h4 : A.cells + (headSpec ws rm).room.cells ≤ R.cells := by rw [show (headSpec ws rm).room.cells = mc from hrc]; exact hp.1
  have h5 : A.slots + (headSpec ws rm).room.slots ≤ R.slots := by rw [show (headSpec ws rm).room.slots = ms from hrs]; exact hp.2.1
  have hPc : Pc a (A.U.calling g mk a) := hblind _ _ _ _ hp.2.2
  obtain ⟨U, Ls, c0, s0⟩ := A
  dsimp only [Pt.U, Pt.locs, Pt.cells, Pt.slots] at h1 h2 h3 h4 h5 X hn hPc ⊢
  obtain ⟨methY, cY, hmY, hcY, -, hlY, -, -, -, -⟩ := Cond.code_spec hn h2
  obtain ⟨kY, hkY, -⟩ := className_of_methodNamed hn
  have hinitY : kY.init = .initialized := Cond.initialized_spec (findClass_of_methodNamed hn) hkY h3
  have h : At U g.method c below := by rw [hg]; exact X.here
  have hlocals9 : W9 + (maxL + 11) + (headSpec ws rm).room.locals ≤ R.locals := hlocals
  have happ : (headSpec ws rm).appliesLoose y e.platform (U.calling g mk a) = true :=
    Spec.appliesLoose_calling (g := g) h hdg hn hkY hinitY
      (X.room_calling (g := g) (R' := (headSpec ws rm).room) hsize hmY hcY hframes (by rw [hlY]; omega) h4 h5) h1
  obtain ⟨mid, hmid⟩ := h.above
  have hfr : (U.setTop g).frames = (.java g :: mid) ++ below := by rw [State.frames_setTop' g h.top, hmid]; rfl
  obtain ⟨o, s₂, hsteps, -, hend, hq⟩ := Steps.callFree hM p X.admits X.cas X.clock (acts := []) hfr happ hPc trivial
  have hq' : vx_Q Qc XC mc ms free a (U.calling g mk a) o s₂ := hq
  rw [State.frames_setTop' g h.top] at hend
  obtain ⟨g₀, hg0⟩ := Option.isSome_iff_exists.mp h.top
  obtain ⟨r, hr⟩ := State.topJava?_eq_some.mp hg0
  have hr' : (({ U with heap := s₂.heap, slotsUsed := s₂.slotsUsed } : State).setVm s₂.vm).frames = .java g₀ :: r := hr
  rcases hq' with ⟨hqc, L, hfe, hL⟩ | ⟨q, rfl, E, ce, L, hx, hce, hcv, hcl, hW₂, hsm, hL⟩
  · obtain ⟨⟨v, rfl⟩, hW₂, e2, q2, q3, q4, q5, q6⟩ := id hfe
    have e3 : s₂ = ({ (U.calling g mk a).setFrames s₂.frames with heap := s₂.heap, slotsUsed := s₂.slotsUsed } : State).setVm s₂.vm := by
      have : s₂ = ({ s₂ with vm := (U.calling g mk a).vm } : State).setVm s₂.vm := rfl
      rw [e2] at this
      exact this
    obtain ⟨c₂, i₂, len₂, hc₂, hd₂, hf₂⟩ := hend
    have hW' : U.WarmedH s₂.vm := hW₂
    have hcc : c₂ = c := by
      have h1 : s₂.code? g.method = U.code? g.method := by
        rw [State.code?_eq, State.code?_eq, hW'.alike.method?]
      exact Option.some.inj (hc₂.symm.trans (h1.trans h.code))
    subst hcc
    have hlen : len₂ = len := by rw [hdg] at hd₂; cases hd₂; rfl
    subst hlen
    have hs₂ : s₂ = (({ U with heap := s₂.heap, slotsUsed := s₂.slotsUsed } : State).setVm s₂.vm).setTop { g with pc := g.pc + len₂, stack := v.toList ++ g.stack } := by
      refine e3.trans ?_
      rw [hf₂, State.calling_eq h.top, State.setFrames_setFrames, State.setTop_of_frames _ hr', hr]
      rfl
    have hsame : U.sameButNew ({ U with heap := s₂.heap, slotsUsed := s₂.slotsUsed } : State) L mc ms := by
      refine ⟨?_, q2, q3, q4, q5, q6⟩
      obtain ⟨t, ht, -⟩ := State.frames_cons hr
      show ({ U with heap := s₂.heap, slotsUsed := s₂.slotsUsed } : State) = { U.setFrames U.frames with heap := s₂.heap, slotsUsed := s₂.slotsUsed }
      rw [State.setFrames_self ht]
    subst hg
    refine Or.inl ⟨v, ⟨(({ U with heap := s₂.heap, slotsUsed := s₂.slotsUsed } : State).setVm s₂.vm), Ls ++ L, c0 + mc, s0 + ms⟩,
      ⟨X.admits, X.cas, X.clock, X.frames, X.room, X.hears, X.method, X.code, (X.here.setHeapUsed s₂.heap s₂.slotsUsed).setVm hW'.alike, X.tail, State.WarmedH.trans X.warmed hW', X.limits, X.bytes, X.same.trans (hsame.setVm s.vm)⟩,
      ⟨g, mk, s₂, L, rfl, rfl, hqc, rfl, hL, rfl, rfl⟩, ?_⟩
    show Steps p.tables e below _ ((({ U with heap := s₂.heap, slotsUsed := s₂.slotsUsed } : State).setVm s₂.vm).setTop { g with pc := g.pc + len₂, stack := v.toList ++ g.stack })
    rw [← hs₂]
    exact hsteps
  · obtain ⟨e2, q2, q3, q4, q5, q6⟩ := id hsm
    have e3 : s₂ = ({ (U.calling g mk a).setFrames s₂.frames with heap := s₂.heap, slotsUsed := s₂.slotsUsed } : State).setVm s₂.vm := by
      have : s₂ = ({ s₂ with vm := (U.calling g mk a).vm } : State).setVm s₂.vm := rfl
      rw [e2] at this
      exact this
    have hf₂ : s₂.frames = .throwing q :: .java g :: U.frames.tail := hend
    have hW' : U.WarmedH s₂.vm := hW₂
    have hs₂ : s₂ = ((({ U with heap := s₂.heap, slotsUsed := s₂.slotsUsed } : State).setVm s₂.vm).setTop g).pushFrame (.throwing q) := by
      refine e3.trans ?_
      rw [hf₂, State.calling_eq h.top, State.setFrames_setFrames, State.pushFrame, State.frames_setTop _ hr', State.setTop_of_frames _ hr', State.setFrames_setFrames, hr]
      rfl
    have hsame : U.sameButNew ({ U with heap := s₂.heap, slotsUsed := s₂.slotsUsed } : State) L mc ms := by
      refine ⟨?_, q2, q3, q4, q5, q6⟩
      obtain ⟨t, ht, -⟩ := State.frames_cons hr
      show ({ U with heap := s₂.heap, slotsUsed := s₂.slotsUsed } : State) = { U.setFrames U.frames with heap := s₂.heap, slotsUsed := s₂.slotsUsed }
      rw [State.setFrames_self ht]
    subst hg
    refine Or.inr ⟨q, ⟨(({ U with heap := s₂.heap, slotsUsed := s₂.slotsUsed } : State).setVm s₂.vm), Ls ++ L, c0 + mc, s0 + ms⟩,
      ⟨X.admits, X.cas, X.clock, X.frames, X.room, X.hears, X.method, X.code, (X.here.setHeapUsed s₂.heap s₂.slotsUsed).setVm hW'.alike, X.tail, State.WarmedH.trans X.warmed hW', X.limits, X.bytes, X.same.trans (hsame.setVm s.vm)⟩,
      ⟨g, mk, s₂, L, E, ce, rfl, rfl, hx, hce, hcv, hcl, rfl, hL, rfl, rfl⟩, ?_⟩
    show Steps p.tables e below _ (((({ U with heap := s₂.heap, slotsUsed := s₂.slotsUsed } : State).setVm s₂.vm).setTop g).pushFrame (.throwing q))
    rw [← hs₂]
    exact hsteps
end Payer
section Calls
variable {p : Program} {l : Launch} {e : Env} {R : Room} {s : State} {m : MethodId} {args : Array Value} {below : List Frame} {meth : Method} {c : Code} {T : State} {locs : List Loc} {cells slots : Nat}
theorem vx_callV (X : Stand p l e R s m args below meth c T locs cells slots) (hexec : p.tables.exec = Jvm.exec) {own C : String} {index : Nat} {y : MethodName} {bytes : ByteArray} {maxL : Nat} {ret : Option FieldType}
    (hown : s.vm.findClass own = some m.cls) (hlink : (Cond.methodLink own index y).before args s = true) (hinst : (Cond.instanceMethod y).before args s = true) (hsel : (Cond.selects C y y).before args s = true)
    (hcode : (Cond.code y bytes maxL ret).before args s = true) (hy : y.cls ≠ "java/lang/invoke/MethodHandle" ∧ y.cls ≠ "java/lang/invoke/VarHandle")
    {W9 : Nat} {Pre : Pt → Array Value → Prop} {Post : Pt → Array Value → Option Value → Pt → Prop} {PostX : Pt → Array Value → Addr → Pt → Prop} (hK : vx_Back l R p e below s args y 3 W9 Pre Post PostX)
    {b : Addr} {cellB : Cell} (hcell : T.heap[b]? = some cellB) (hobj : cellB.vm.isStatics = false) (hcls : s.vm.findClass C = some cellB.cls)
    {g : JFrame} (hg : g.method = m) (hsize : g.locals.size = c.maxLocals) {argsL rest : List Value} (hlen : ∀ sig, parseMethodDescriptor y.desc = some sig → argsL.length = sig.parameters.length)
    (hstack : g.stack = argsL.reverse ++ .ref b :: rest) (hW : 2 * g.monitorRoom + (rest.map fun v => v.category).sum ≤ W9) (hdg : decode c.code g.pc = .ok (.invokevirtual index, 3))
    (hpre : ∀ vm₁, s.WarmedH vm₁ → Pre ⟨T.setVm vm₁, locs, cells, slots⟩ (Value.ref b :: argsL).toArray) :
    (∃ (v : Option Value) (vm₁ : Vm) (B : Pt), s.WarmedH vm₁ ∧ Stand p l e R s m args below meth c B.U B.locs B.cells B.slots ∧ Post ⟨T.setVm vm₁, locs, cells, slots⟩ (Value.ref b :: argsL).toArray v B ∧
      ∀ target, Steps p.tables e below (B.U.setTop { g with pc := g.pc + 3, stack := v.toList ++ rest }) target → Steps p.tables e below (T.setTop g) target) ∨
    (∃ (q : Addr) (vm₁ : Vm) (B : Pt), s.WarmedH vm₁ ∧ Stand p l e R s m args below meth c B.U B.locs B.cells B.slots ∧ PostX ⟨T.setVm vm₁, locs, cells, slots⟩ (Value.ref b :: argsL).toArray q B ∧
      Steps p.tables e below (T.setTop g) ((B.U.setTop { g with stack := rest }).pushFrame (.throwing q))) := by
  obtain ⟨mk, methM, hnamed, hmethM, hstM, habM⟩ := Cond.instanceMethod_spec hinst
  obtain ⟨methM', cM, hmethM', -, -, -, -, -, -, hsigM⟩ := Cond.code_spec hnamed hcode
  cases hmethM.symm.trans hmethM'
  obtain ⟨c2, r2, m2, q1, q2, q3, q4, kP, hkP, hkPi⟩ := Cond.selects_spec hsel
  cases hcls.symm.trans q1
  cases (State.methodFound?_of_named hnamed hy).symm.trans q2
  cases hnamed.symm.trans q3
  have hselP : selectMethod e.platform s.vm cellB.cls mk = .method mk := by rw [Launch.admits_selectMethod X.admits]; exact q4
  obtain ⟨vm₁, X₁, hstep₁⟩ := X.invokevirtual hexec hown hlink hnamed hmethM hstM hkP hkPi hy (a := b) (cell := cellB) hcell
    (fun z h => by rw [h] at hobj; cases hobj) hselP hmethM habM hkP hkPi (g := g) hg (argsL := argsL) (rest := rest) (hlen _ hsigM) hstack hdg
  rcases hK m meth c ⟨T.setVm vm₁, locs, cells, slots⟩ { g with stack := rest } (.invokevirtual index) mk (Value.ref b :: argsL).toArray X₁ hg hsize hdg hW (X₁.named hnamed) (hpre vm₁ X₁.warmed) with ⟨v, B, X', hpost, hsteps⟩ | ⟨q, B, X', hpost, hsteps⟩
  · exact Or.inl ⟨v, vm₁, B, X₁.warmed, X', hpost, fun target h => hstep₁ _ fun acts => by rw [doInvoke_state]; exact hsteps.trans h⟩
  · exact Or.inr ⟨q, vm₁, B, X₁.warmed, X', hpost, hstep₁ _ fun acts => by rw [doInvoke_state]; exact hsteps⟩
theorem vx_callS (X : Stand p l e R s m args below meth c T locs cells slots) (hexec : p.tables.exec = Jvm.exec) {own : String} {index : Nat} {y : MethodName} {bytes : ByteArray} {maxL : Nat} {ret : Option FieldType}
    (hown : s.vm.findClass own = some m.cls) (hlink : (Cond.methodLink own index y).before args s = true) (hstat : (Cond.static y).before args s = true) (hinit : (Cond.initialized y.cls).before args s = true)
    (hcode : (Cond.code y bytes maxL ret).before args s = true) (hy : y.cls ≠ "java/lang/invoke/MethodHandle" ∧ y.cls ≠ "java/lang/invoke/VarHandle")
    {W9 : Nat} {Pre : Pt → Array Value → Prop} {Post : Pt → Array Value → Option Value → Pt → Prop} {PostX : Pt → Array Value → Addr → Pt → Prop} (hK : vx_Back l R p e below s args y 3 W9 Pre Post PostX)
    {g : JFrame} (hg : g.method = m) (hsize : g.locals.size = c.maxLocals) {argsL rest : List Value} (hlen : ∀ sig, parseMethodDescriptor y.desc = some sig → argsL.length = sig.parameters.length)
    (hstack : g.stack = argsL.reverse ++ rest) (hW : 2 * g.monitorRoom + (rest.map fun v => v.category).sum ≤ W9) (hdg : decode c.code g.pc = .ok (.invokestatic index, 3))
    (hpre : ∀ vm₁, s.WarmedH vm₁ → Pre ⟨T.setVm vm₁, locs, cells, slots⟩ argsL.toArray) :
    (∃ (v : Option Value) (vm₁ : Vm) (B : Pt), s.WarmedH vm₁ ∧ Stand p l e R s m args below meth c B.U B.locs B.cells B.slots ∧ Post ⟨T.setVm vm₁, locs, cells, slots⟩ argsL.toArray v B ∧
      ∀ target, Steps p.tables e below (B.U.setTop { g with pc := g.pc + 3, stack := v.toList ++ rest }) target → Steps p.tables e below (T.setTop g) target) ∨
    (∃ (q : Addr) (vm₁ : Vm) (B : Pt), s.WarmedH vm₁ ∧ Stand p l e R s m args below meth c B.U B.locs B.cells B.slots ∧ PostX ⟨T.setVm vm₁, locs, cells, slots⟩ argsL.toArray q B ∧
      Steps p.tables e below (T.setTop g) ((B.U.setTop { g with stack := rest }).pushFrame (.throwing q))) := by
  obtain ⟨mk, hnamed⟩ := Cond.code_named hcode
  obtain ⟨methM, cM, hmethM, -, -, -, -, -, -, hsigM⟩ := Cond.code_spec hnamed hcode
  have hstatic : methM.isStatic = true := Cond.static_spec hnamed hmethM hstat
  obtain ⟨kP, hkP, -⟩ := className_of_methodNamed hnamed
  have hinitP : kP.init = .initialized := Cond.initialized_spec (findClass_of_methodNamed hnamed) hkP hinit
  obtain ⟨vm₁, X₁, hstep₁⟩ := X.invokestatic hexec hown hlink hnamed hmethM hstatic hkP hinitP hy (g := g) hg (argsL := argsL) (rest := rest) (hlen _ hsigM) hstack hdg
  rcases hK m meth c ⟨T.setVm vm₁, locs, cells, slots⟩ { g with stack := rest } (.invokestatic index) mk argsL.toArray X₁ hg hsize hdg hW (X₁.named hnamed) (hpre vm₁ X₁.warmed) with ⟨v, B, X', hpost, hsteps⟩ | ⟨q, B, X', hpost, hsteps⟩
  · exact Or.inl ⟨v, vm₁, B, X₁.warmed, X', hpost, fun target h => hstep₁ _ fun acts => by rw [doInvoke_state]; exact hsteps.trans h⟩
  · exact Or.inr ⟨q, vm₁, B, X₁.warmed, X', hpost, hstep₁ _ fun acts => by rw [doInvoke_state]; exact hsteps⟩
end Calls
theorem vx_cls {s : State} {T : State} {vm₁ : Vm} {E : String} {k : ClassId} (hW : s.WarmedH vm₁) (h : (T.setVm vm₁).vm.findClass E = some k) : s.vm.findClass E = some k := by
  have h1 : vm₁.findClass E = some k := h
  rw [hW.alike.findClass] at h1
  exact h1
/-- the method's frame g, with q thrown over it -/
def vx_W (p : Program) (l : Launch) (e : Env) (R : Room) (s : State) (m : MethodId) (args : Array Value) (below : List Frame) (meth : Method) (c : Code) (H : Heap) (locs : List Loc) (cells slots : Nat) (Q : State → Prop) (g : JFrame) (q : Addr) : Prop :=
  ∀ T : State, T.heap = H → Stand p l e R s m args below meth c T locs cells slots → ∃ t, Steps p.tables e below ((T.setTop g).pushFrame (.throwing q)) t ∧ Q t
def vx_Run (p : Program) (l : Launch) (e : Env) (R : Room) (s : State) (m : MethodId) (args : Array Value) (below : List Frame) (meth : Method) (c : Code) (H : Heap) (locs : List Loc) (cells slots mc ms : Nat) (g : JFrame) (rest : List Value) (Qa : State → Outcome → State → Prop) (XC : String → State → State → Prop) (free : Addr → Prop) : Prop :=
  ∀ T : State, T.heap = H → Stand p l e R s m args below meth c T locs cells slots →
    (∃ (v : Option Value) (st₀ t T' : State) (L : List Loc), st₀.heap = H ∧ Stand p l e R s m args below meth c T' (locs ++ L) (cells + mc) (slots + ms) ∧ (∀ q ∈ L, free q.base) ∧ T'.heap = t.heap ∧ T'.vm = t.vm ∧ Qa st₀ (.returned v) t ∧
      Goes p e below T g T' { g with pc := g.pc + 3, stack := v.toList ++ rest }) ∨
    (∃ (q : Addr) (st₀ t T' : State) (L : List Loc) (E : String) (ce : Cell), st₀.heap = H ∧ Stand p l e R s m args below meth c T' (locs ++ L) (cells + mc) (slots + ms) ∧ (∀ z ∈ L, free z.base) ∧ T'.heap = t.heap ∧ T'.vm = t.vm ∧ XC E st₀ t ∧ t.heap[q]? = some ce ∧ ce.vm = .none ∧ s.vm.findClass E = some ce.cls ∧
      Steps p.tables e below (T.setTop g) ((T'.setTop { g with stack := rest }).pushFrame (.throwing q)))
def vx_X {S : Type} (px : S → Prop) (B : String → S → State → Prop) (A : Nat → Prop) : String → State → State → Prop := fun E st t => ∃ u : S, px u ∧ B E u t ∧ va_F A st t
section Runs
variable {p : Program} {l : Launch} {e : Env} {R : Room} {s : State} {m : MethodId} {args : Array Value} {below : List Frame} {meth : Method} {c : Code} {H : Heap} {locs : List Loc} {cells slots : Nat}
variable {y : MethodName} {bytes cc : ByteArray} {maxL nL mc ms n index : Nat} {ret : Option FieldType} {ws : List Cond} {rm : Room} {Pc : Array Value → State → Prop} {Qc : Array Value → State → Outcome → State → Prop} {XC : String → State → State → Prop} {free : Addr → Prop} {Ts : List Cond} {own C : String} {b : Addr} {As rest : List Value} {g : JFrame}
theorem vx_callBack (cb : CallB R s args own index y bytes maxL ret ws rm mc ms n) (hM : vx_Met l y ws rm Pc Qc XC mc ms free) (hbl : FrameBlind Pc) : vx_Back l R p e below s args y 3 8 (PreOf R mc ms Pc) (PostOf Qc mc ms free) (vx_Post XC mc ms free) := by
  obtain ⟨hrc, hrs, hfr, hlo, hws, hcw, -, hini, -⟩ := cb
  exact vx_back (bytes := bytes) (maxL := maxL) (ret := ret) hM hbl hrc hrs hfr hlo hws hcw (fun a' U hW => word_at hW (Or.inl (by first | rfl | simp [Cond.onTables, Cond.keeps, Cond.steady])) hini)
theorem vx_runV (S : CallFix p m c cc nL s args Ts own) (hM : vx_Met l y ws rm Pc Qc XC mc ms free) (cw : CallW R s args own C index y bytes maxL ret ws rm mc ms n) (hp : PreV s H C b Pc As)
    (hg : g.method = m) (hn : As.length = n) (hsize : g.locals.size = nL) (hstack : g.stack = As.reverse ++ .ref b :: rest) (hW : 2 * g.monitorRoom + (rest.map fun v => v.category).sum ≤ 8) (hdg : decode cc g.pc = .ok (.invokevirtual index, 3)) (hf : cells + mc ≤ R.cells ∧ slots + ms ≤ R.slots) :
    vx_Run p l e R s m args below meth c H locs cells slots mc ms g rest (Qc (Value.ref b :: As).toArray) XC free := by
  have hK : vx_Back l R p e below s args y 3 8 (PreOf R mc ms Pc) (PostOf Qc mc ms free) (vx_Post XC mc ms free) := vx_callBack cw.1 hM hp.1
  obtain ⟨⟨-, -, -, -, -, -, hcode, -, hy, hlen, hl⟩, hin, hse⟩ := cw
  obtain ⟨hx, hb, hml, ho, -⟩ := S
  obtain ⟨-, ⟨cellB, hcB, hoB, hclB⟩, hPc⟩ := hp
  intro T hT X
  rcases vx_callV X hx (C := C) (bytes := bytes) (maxL := maxL) (ret := ret) ho hl hin hse hcode hy hK (by rw [hT]; exact hcB) hoB hclB hg (hsize.trans hml.symm) (argsL := As) (rest := rest) (fun sig h => hn.trans (hlen sig h)) hstack hW (by rw [hb]; exact hdg)
    (fun vm₁ hW₁ => ⟨hf.1, hf.2, hPc (T.setVm vm₁) hT hW₁⟩) with ⟨v, vm₁, ⟨U', l2, c2, s2⟩, hW₁, X', ⟨g', mk, t, L, e1, e2, hq, h1, hL, h2, h3⟩, st⟩ | ⟨q, vm₁, ⟨U', l2, c2, s2⟩, hW₁, X', ⟨g', mk, t, L, E, ce, e1, e2, hq, hce, hcv, hcl, h1, hL, h2, h3⟩, st⟩
  · dsimp only [Pt.U, Pt.locs, Pt.cells, Pt.slots] at X' e1 e2 h1 h2 h3 st
    subst h1; subst h2; subst h3
    exact Or.inl ⟨v, (T.setVm vm₁).calling g' mk (Value.ref b :: As).toArray, t, U', L, hT, X', hL, e1, e2, hq, st⟩
  · dsimp only [Pt.U, Pt.locs, Pt.cells, Pt.slots] at X' e1 e2 h1 h2 h3 st hcl
    subst h1; subst h2; subst h3
    exact Or.inr ⟨q, (T.setVm vm₁).calling g' mk (Value.ref b :: As).toArray, t, U', L, E, ce, hT, X', hL, e1, e2, hq, hce, hcv, vx_cls hW₁ hcl, st⟩
theorem vx_runS (S : CallFix p m c cc nL s args Ts own) (hM : vx_Met l y ws rm Pc Qc XC mc ms free) (cw : CallB R s args own index y bytes maxL ret ws rm mc ms n ∧ (Cond.static y).before args s = true) (hp : PreS s H Pc As)
    (hg : g.method = m) (hn : As.length = n) (hsize : g.locals.size = nL) (hstack : g.stack = As.reverse ++ rest) (hW : 2 * g.monitorRoom + (rest.map fun v => v.category).sum ≤ 8) (hdg : decode cc g.pc = .ok (.invokestatic index, 3)) (hf : cells + mc ≤ R.cells ∧ slots + ms ≤ R.slots) :
    vx_Run p l e R s m args below meth c H locs cells slots mc ms g rest (Qc As.toArray) XC free := by
  have hK : vx_Back l R p e below s args y 3 8 (PreOf R mc ms Pc) (PostOf Qc mc ms free) (vx_Post XC mc ms free) := vx_callBack cw.1 hM hp.1
  obtain ⟨⟨-, -, -, -, -, -, hcode, hini, hy, hlen, hl⟩, hstt⟩ := cw
  obtain ⟨hx, hb, hml, ho, -⟩ := S
  intro T hT X
  rcases vx_callS X hx (bytes := bytes) (maxL := maxL) (ret := ret) ho hl hstt hini hcode hy hK hg (hsize.trans hml.symm) (argsL := As) (rest := rest) (fun sig h => hn.trans (hlen sig h)) hstack hW (by rw [hb]; exact hdg)
    (fun vm₁ hW₁ => ⟨hf.1, hf.2, hp.2 (T.setVm vm₁) hT hW₁⟩) with ⟨v, vm₁, ⟨U', l2, c2, s2⟩, hW₁, X', ⟨g', mk, t, L, e1, e2, hq, h1, hL, h2, h3⟩, st⟩ | ⟨q, vm₁, ⟨U', l2, c2, s2⟩, hW₁, X', ⟨g', mk, t, L, E, ce, e1, e2, hq, hce, hcv, hcl, h1, hL, h2, h3⟩, st⟩
  · dsimp only [Pt.U, Pt.locs, Pt.cells, Pt.slots] at X' e1 e2 h1 h2 h3 st
    subst h1; subst h2; subst h3
    exact Or.inl ⟨v, (T.setVm vm₁).calling g' mk As.toArray, t, U', L, hT, X', hL, e1, e2, hq, st⟩
  · dsimp only [Pt.U, Pt.locs, Pt.cells, Pt.slots] at X' e1 e2 h1 h2 h3 st hcl
    subst h1; subst h2; subst h3
    exact Or.inr ⟨q, (T.setVm vm₁).calling g' mk As.toArray, t, U', L, E, ce, hT, X', hL, e1, e2, hq, hce, hcv, vx_cls hW₁ hcl, st⟩
end Runs
section Rows
variable {p : Program} {l : Launch} {e : Env} {R : Room} {s : State} {m : MethodId} {args : Array Value} {below : List Frame} {meth : Method} {c : Code} {H : Heap} {locs : List Loc} {cells slots : Nat} {Q : State → Prop}
variable {mc ms : Nat} {free : Addr → Prop} {A0 A1 : Nat → Prop} {H0 : Heap} {a : Array Value} {pc : Nat} {ls : Array Slot} {st0 rest : List Value}
theorem vx_keep {st₀ t T' : State} {L : List Loc} (h0 : st₀.heap = H) (e1 : T'.heap = t.heap) (hS : va_S A0 H0 H locs) (hA : ∀ q, q < H.size → A1 q → A0 q) (hf : ∀ q, free q → A0 q) (hL : ∀ q ∈ L, free q.base) (hF : va_F A1 st₀ t) :
    H.size ≤ T'.heap.size ∧ (∀ q : Nat, q < H.size → ¬ A1 q → T'.heap[q]? = H[q]?) ∧ va_S A0 H0 T'.heap (locs ++ L) := by
  obtain ⟨hz, hk⟩ := hF
  rw [h0] at hz hk
  exact ⟨by rw [e1]; exact hz, fun q h1 h2 => by rw [e1]; exact hk q h1 h2,
    ⟨Nat.le_trans hS.1 (by rw [e1]; exact hz), fun q h1 h2 => by rw [e1, hk q (Nat.lt_of_lt_of_le h1 hS.1) (fun z => h2 (hA q (Nat.lt_of_lt_of_le h1 hS.1) z))]; exact hS.2.1 q h1 h2, fun q hq => by
      rcases List.mem_append.mp hq with h | h
      · exact hS.2.2 q h
      · exact hf _ (hL q h)⟩⟩
theorem vx_calli {S SX : Type} {post : Int32 → S → Prop} {px : SX → Prop} {B : S → State → Prop} {BX : String → SX → State → Prop} {AX : Nat → Prop} (hr : vx_Run p l e R s m args below meth c H locs cells slots mc ms (F0 m pc ls st0) rest (va_Qi post B A1 a) (vx_X px BX AX) free) (hS : va_S A0 H0 H locs) (hA : ∀ q, q < H.size → A1 q → A0 q) (hf : ∀ q, free q → A0 q) (hAX : ∀ q, q < H.size → AX q → A0 q)
    (kx : ∀ (E : String) (ce : Cell) (q9 : Addr) (u : SX) (t : State) (H1 : Heap) (locs1 : List Loc), t.heap = H1 → s.vm.Alike t.vm → px u → BX E u t → H.size ≤ H1.size → (∀ q : Nat, q < H.size → ¬ AX q → H1[q]? = H[q]?) → va_S A0 H0 H1 locs1 → H1[q9]? = some ce → ce.vm = .none → s.vm.findClass E = some ce.cls → vx_W p l e R s m args below meth c H1 locs1 (cells + mc) (slots + ms) Q (F0 m pc ls rest) q9)
    (kk : ∀ (r : Int32) (u : S) (t : State) (H1 : Heap) (locs1 : List Loc), t.heap = H1 → s.vm.Alike t.vm → post r u → B u t → H.size ≤ H1.size → (∀ q : Nat, q < H.size → ¬ A1 q → H1[q]? = H[q]?) → va_S A0 H0 H1 locs1 → W p l e R s m args below meth c H1 locs1 (cells + mc) (slots + ms) Q (F0 m (pc + 3) ls (.int r :: rest))) : W p l e R s m args below meth c H locs cells slots Q (F0 m pc ls st0) := by
  intro T hT X
  rcases hr T hT X with ⟨v, st₀, t, T', L, h0, X', hL, e1, e2, ⟨⟨r, u, hv, hp, hb⟩, hF⟩, st⟩ | ⟨q, st₀, t, T', L, E, ce, h0, X', hL, e1, e2, ⟨u, hp, hb, hF⟩, hce, hcv, hcl, st⟩
  · cases hv
    obtain ⟨k1, k2, k3⟩ := vx_keep h0 e1 hS hA hf hL hF
    obtain ⟨t2, a1, b1⟩ := kk r u t T'.heap (locs ++ L) e1.symm (by rw [← e2]; exact X'.warmed.alike) hp hb k1 k2 k3 T' rfl X'
    exact ⟨t2, st t2 a1, b1⟩
  · obtain ⟨k1, k2, k3⟩ := vx_keep h0 e1 hS hAX hf hL hF
    obtain ⟨t2, a1, b1⟩ := kx E ce q u t T'.heap (locs ++ L) e1.symm (by rw [← e2]; exact X'.warmed.alike) hp hb k1 k2 k3 (by rw [e1]; exact hce) hcv hcl T' rfl X'
    exact ⟨t2, st.trans a1, b1⟩
theorem vx_calll {S SX : Type} {post : Int64 → S → Prop} {px : SX → Prop} {B : S → State → Prop} {BX : String → SX → State → Prop} {AX : Nat → Prop} (hr : vx_Run p l e R s m args below meth c H locs cells slots mc ms (F0 m pc ls st0) rest (va_Ql post B A1 a) (vx_X px BX AX) free) (hS : va_S A0 H0 H locs) (hA : ∀ q, q < H.size → A1 q → A0 q) (hf : ∀ q, free q → A0 q) (hAX : ∀ q, q < H.size → AX q → A0 q)
    (kx : ∀ (E : String) (ce : Cell) (q9 : Addr) (u : SX) (t : State) (H1 : Heap) (locs1 : List Loc), t.heap = H1 → s.vm.Alike t.vm → px u → BX E u t → H.size ≤ H1.size → (∀ q : Nat, q < H.size → ¬ AX q → H1[q]? = H[q]?) → va_S A0 H0 H1 locs1 → H1[q9]? = some ce → ce.vm = .none → s.vm.findClass E = some ce.cls → vx_W p l e R s m args below meth c H1 locs1 (cells + mc) (slots + ms) Q (F0 m pc ls rest) q9)
    (kk : ∀ (r : Int64) (u : S) (t : State) (H1 : Heap) (locs1 : List Loc), t.heap = H1 → s.vm.Alike t.vm → post r u → B u t → H.size ≤ H1.size → (∀ q : Nat, q < H.size → ¬ A1 q → H1[q]? = H[q]?) → va_S A0 H0 H1 locs1 → W p l e R s m args below meth c H1 locs1 (cells + mc) (slots + ms) Q (F0 m (pc + 3) ls (.long r :: rest))) : W p l e R s m args below meth c H locs cells slots Q (F0 m pc ls st0) := by
  intro T hT X
  rcases hr T hT X with ⟨v, st₀, t, T', L, h0, X', hL, e1, e2, ⟨⟨r, u, hv, hp, hb⟩, hF⟩, st⟩ | ⟨q, st₀, t, T', L, E, ce, h0, X', hL, e1, e2, ⟨u, hp, hb, hF⟩, hce, hcv, hcl, st⟩
  · cases hv
    obtain ⟨k1, k2, k3⟩ := vx_keep h0 e1 hS hA hf hL hF
    obtain ⟨t2, a1, b1⟩ := kk r u t T'.heap (locs ++ L) e1.symm (by rw [← e2]; exact X'.warmed.alike) hp hb k1 k2 k3 T' rfl X'
    exact ⟨t2, st t2 a1, b1⟩
  · obtain ⟨k1, k2, k3⟩ := vx_keep h0 e1 hS hAX hf hL hF
    obtain ⟨t2, a1, b1⟩ := kx E ce q u t T'.heap (locs ++ L) e1.symm (by rw [← e2]; exact X'.warmed.alike) hp hb k1 k2 k3 (by rw [e1]; exact hce) hcv hcl T' rfl X'
    exact ⟨t2, st.trans a1, b1⟩
theorem vx_callf {S SX : Type} {post : UInt32 → S → Prop} {px : SX → Prop} {B : S → State → Prop} {BX : String → SX → State → Prop} {AX : Nat → Prop} (hr : vx_Run p l e R s m args below meth c H locs cells slots mc ms (F0 m pc ls st0) rest (va_Qf post B A1 a) (vx_X px BX AX) free) (hS : va_S A0 H0 H locs) (hA : ∀ q, q < H.size → A1 q → A0 q) (hf : ∀ q, free q → A0 q) (hAX : ∀ q, q < H.size → AX q → A0 q)
    (kx : ∀ (E : String) (ce : Cell) (q9 : Addr) (u : SX) (t : State) (H1 : Heap) (locs1 : List Loc), t.heap = H1 → s.vm.Alike t.vm → px u → BX E u t → H.size ≤ H1.size → (∀ q : Nat, q < H.size → ¬ AX q → H1[q]? = H[q]?) → va_S A0 H0 H1 locs1 → H1[q9]? = some ce → ce.vm = .none → s.vm.findClass E = some ce.cls → vx_W p l e R s m args below meth c H1 locs1 (cells + mc) (slots + ms) Q (F0 m pc ls rest) q9)
    (kk : ∀ (r : UInt32) (u : S) (t : State) (H1 : Heap) (locs1 : List Loc), t.heap = H1 → s.vm.Alike t.vm → post r u → B u t → H.size ≤ H1.size → (∀ q : Nat, q < H.size → ¬ A1 q → H1[q]? = H[q]?) → va_S A0 H0 H1 locs1 → W p l e R s m args below meth c H1 locs1 (cells + mc) (slots + ms) Q (F0 m (pc + 3) ls (.float r :: rest))) : W p l e R s m args below meth c H locs cells slots Q (F0 m pc ls st0) := by
  intro T hT X
  rcases hr T hT X with ⟨v, st₀, t, T', L, h0, X', hL, e1, e2, ⟨⟨r, u, hv, hp, hb⟩, hF⟩, st⟩ | ⟨q, st₀, t, T', L, E, ce, h0, X', hL, e1, e2, ⟨u, hp, hb, hF⟩, hce, hcv, hcl, st⟩
  · cases hv
    obtain ⟨k1, k2, k3⟩ := vx_keep h0 e1 hS hA hf hL hF
    obtain ⟨t2, a1, b1⟩ := kk r u t T'.heap (locs ++ L) e1.symm (by rw [← e2]; exact X'.warmed.alike) hp hb k1 k2 k3 T' rfl X'
    exact ⟨t2, st t2 a1, b1⟩
  · obtain ⟨k1, k2, k3⟩ := vx_keep h0 e1 hS hAX hf hL hF
    obtain ⟨t2, a1, b1⟩ := kx E ce q u t T'.heap (locs ++ L) e1.symm (by rw [← e2]; exact X'.warmed.alike) hp hb k1 k2 k3 (by rw [e1]; exact hce) hcv hcl T' rfl X'
    exact ⟨t2, st.trans a1, b1⟩
theorem vx_calld {S SX : Type} {post : UInt64 → S → Prop} {px : SX → Prop} {B : S → State → Prop} {BX : String → SX → State → Prop} {AX : Nat → Prop} (hr : vx_Run p l e R s m args below meth c H locs cells slots mc ms (F0 m pc ls st0) rest (va_Qd post B A1 a) (vx_X px BX AX) free) (hS : va_S A0 H0 H locs) (hA : ∀ q, q < H.size → A1 q → A0 q) (hf : ∀ q, free q → A0 q) (hAX : ∀ q, q < H.size → AX q → A0 q)
    (kx : ∀ (E : String) (ce : Cell) (q9 : Addr) (u : SX) (t : State) (H1 : Heap) (locs1 : List Loc), t.heap = H1 → s.vm.Alike t.vm → px u → BX E u t → H.size ≤ H1.size → (∀ q : Nat, q < H.size → ¬ AX q → H1[q]? = H[q]?) → va_S A0 H0 H1 locs1 → H1[q9]? = some ce → ce.vm = .none → s.vm.findClass E = some ce.cls → vx_W p l e R s m args below meth c H1 locs1 (cells + mc) (slots + ms) Q (F0 m pc ls rest) q9)
    (kk : ∀ (r : UInt64) (u : S) (t : State) (H1 : Heap) (locs1 : List Loc), t.heap = H1 → s.vm.Alike t.vm → post r u → B u t → H.size ≤ H1.size → (∀ q : Nat, q < H.size → ¬ A1 q → H1[q]? = H[q]?) → va_S A0 H0 H1 locs1 → W p l e R s m args below meth c H1 locs1 (cells + mc) (slots + ms) Q (F0 m (pc + 3) ls (.double r :: rest))) : W p l e R s m args below meth c H locs cells slots Q (F0 m pc ls st0) := by
  intro T hT X
  rcases hr T hT X with ⟨v, st₀, t, T', L, h0, X', hL, e1, e2, ⟨⟨r, u, hv, hp, hb⟩, hF⟩, st⟩ | ⟨q, st₀, t, T', L, E, ce, h0, X', hL, e1, e2, ⟨u, hp, hb, hF⟩, hce, hcv, hcl, st⟩
  · cases hv
    obtain ⟨k1, k2, k3⟩ := vx_keep h0 e1 hS hA hf hL hF
    obtain ⟨t2, a1, b1⟩ := kk r u t T'.heap (locs ++ L) e1.symm (by rw [← e2]; exact X'.warmed.alike) hp hb k1 k2 k3 T' rfl X'
    exact ⟨t2, st t2 a1, b1⟩
  · obtain ⟨k1, k2, k3⟩ := vx_keep h0 e1 hS hAX hf hL hF
    obtain ⟨t2, a1, b1⟩ := kx E ce q u t T'.heap (locs ++ L) e1.symm (by rw [← e2]; exact X'.warmed.alike) hp hb k1 k2 k3 (by rw [e1]; exact hce) hcv hcl T' rfl X'
    exact ⟨t2, st.trans a1, b1⟩
theorem vx_callv {S SX : Type} {post : S → Prop} {px : SX → Prop} {B : S → State → Prop} {BX : String → SX → State → Prop} {AX : Nat → Prop} (hr : vx_Run p l e R s m args below meth c H locs cells slots mc ms (F0 m pc ls st0) rest (va_Qv post B A1 a) (vx_X px BX AX) free) (hS : va_S A0 H0 H locs) (hA : ∀ q, q < H.size → A1 q → A0 q) (hf : ∀ q, free q → A0 q) (hAX : ∀ q, q < H.size → AX q → A0 q)
    (kx : ∀ (E : String) (ce : Cell) (q9 : Addr) (u : SX) (t : State) (H1 : Heap) (locs1 : List Loc), t.heap = H1 → s.vm.Alike t.vm → px u → BX E u t → H.size ≤ H1.size → (∀ q : Nat, q < H.size → ¬ AX q → H1[q]? = H[q]?) → va_S A0 H0 H1 locs1 → H1[q9]? = some ce → ce.vm = .none → s.vm.findClass E = some ce.cls → vx_W p l e R s m args below meth c H1 locs1 (cells + mc) (slots + ms) Q (F0 m pc ls rest) q9)
    (kk : ∀ (u : S) (t : State) (H1 : Heap) (locs1 : List Loc), t.heap = H1 → s.vm.Alike t.vm → post u → B u t → H.size ≤ H1.size → (∀ q : Nat, q < H.size → ¬ A1 q → H1[q]? = H[q]?) → va_S A0 H0 H1 locs1 → W p l e R s m args below meth c H1 locs1 (cells + mc) (slots + ms) Q (F0 m (pc + 3) ls (rest))) : W p l e R s m args below meth c H locs cells slots Q (F0 m pc ls st0) := by
  intro T hT X
  rcases hr T hT X with ⟨v, st₀, t, T', L, h0, X', hL, e1, e2, ⟨⟨u, hv, hp, hb⟩, hF⟩, st⟩ | ⟨q, st₀, t, T', L, E, ce, h0, X', hL, e1, e2, ⟨u, hp, hb, hF⟩, hce, hcv, hcl, st⟩
  · cases hv
    obtain ⟨k1, k2, k3⟩ := vx_keep h0 e1 hS hA hf hL hF
    obtain ⟨t2, a1, b1⟩ := kk u t T'.heap (locs ++ L) e1.symm (by rw [← e2]; exact X'.warmed.alike) hp hb k1 k2 k3 T' rfl X'
    exact ⟨t2, st t2 a1, b1⟩
  · obtain ⟨k1, k2, k3⟩ := vx_keep h0 e1 hS hAX hf hL hF
    obtain ⟨t2, a1, b1⟩ := kx E ce q u t T'.heap (locs ++ L) e1.symm (by rw [← e2]; exact X'.warmed.alike) hp hb k1 k2 k3 (by rw [e1]; exact hce) hcv hcl T' rfl X'
    exact ⟨t2, st.trans a1, b1⟩
/-- caught by the row x of this method's table; the rows ahead don't take it -/
theorem vx_catch {own name : String} {E : String} {ce : Cell} {q : Addr} (hown : s.vm.findClass own = some m.cls) (pre : List ExceptionTableEntry) (x : ExceptionTableEntry) (suf : List ExceptionTableEntry) (hsplit : c.exceptionTable.toList = pre ++ x :: suf)
    (hpass : ∀ z ∈ pre, covers z pc = false ∨ (z.catchType ≠ 0 ∧ ∃ nm : String, (Cond.classLink own z.catchType nm).before args s = true ∧ va_Nc E nm s)) (hx : covers x pc = true) (h0 : x.catchType ≠ 0)
    (hlink : (Cond.classLink own x.catchType name).before args s = true) (hcast : (Cond.castable E name).before args s = true) (hcell : H[q]? = some ce) (hv : ce.vm = .none) (hcl : s.vm.findClass E = some ce.cls)
    (kk : W p l e R s m args below meth c H locs cells slots Q (F0 m x.handlerPc ls [.ref q])) : vx_W p l e R s m args below meth c H locs cells slots Q (F0 m pc ls rest) q := by
  intro T hT X
  have hpl : e.platform.magicAccessors = ({} : Platform).magicAccessors := by rw [X.admits.platform]
  obtain ⟨c3, c4, hc3, hc4, hasg⟩ := Cond.castable_spec hcast
  cases Option.some.inj (hc3.symm.trans hcl)
  obtain ⟨c5, hc5, hcl5⟩ := Cond.classLink_spec hown hlink e.platform hpl
  cases Option.some.inj (hc4.symm.trans hc5)
  obtain ⟨vm', X', st⟩ := X.thenCaughtThrough q (g := F0 m pc ls rest) rfl (Steps.refl _) (by rw [hT]; exact hcell) (by rw [hv]; rfl) (by obtain ⟨k9, h9, -⟩ := Vm.findClass_spec hcl; exact ⟨k9, h9⟩) pre x suf hsplit
    (fun z hz => by
      rcases hpass z hz with h | ⟨hz0, nm, hl1, hn1⟩
      · exact Or.inl h
      · obtain ⟨c6, hc6, hcl6⟩ := Cond.classLink_spec hown hl1 e.platform hpl
        obtain ⟨a8, b8, h1, h2, h3⟩ := hn1
        cases Option.some.inj (h1.symm.trans hcl)
        cases Option.some.inj (h2.symm.trans hc6)
        exact Or.inr ⟨hz0, _, hcl6, h3⟩) hx (Or.inr ⟨h0, c4, hcl5, hasg⟩)
  obtain ⟨t, a1, b1⟩ := kk (T.setVm vm') hT X'
  exact ⟨t, st.trans a1, b1⟩
end Rows
section Ends
variable {p : Program} {l : Launch} {e : Env} {R : Room} {s : State} {m : MethodId} {args : Array Value} {below : List Frame} {meth : Method} {c : Code} {H : Heap} {locs : List Loc} {cells slots : Nat} {Q : State → Prop}
variable {mc ms : Nat} {free : Addr → Prop} {A0 A1 : Nat → Prop} {H0 : Heap} {a : Array Value} {ls : Array Slot} {st0 rest : List Value}
variable {Qc : Array Value → State → Outcome → State → Prop} {XC : String → State → State → Prop}
/-- what a body that may throw owes at its end -/
def vx_MQ (below : List Frame) (Qc : Array Value → State → Outcome → State → Prop) (XC : String → State → State → Prop) (a : Array Value) (s : State) (mc ms : Nat) (free : Addr → Prop) : State → Prop := fun t =>
  ∃ o, t.status = .running ∧ Ended t below o ∧ vx_Q Qc XC mc ms free a s o t
theorem vx_ret {g : JFrame} {mc ms : Nat} (k : W p l e R s m args below meth c H locs cells slots (MQ below Qc args s mc ms free) g) : W p l e R s m args below meth c H locs cells slots (vx_MQ below Qc XC args s mc ms free) g := by
  intro T hT X
  obtain ⟨t, a1, o, b1, b2, b3, b4⟩ := k T hT X
  exact ⟨t, a1, o, b1, b2, Or.inl ⟨b3, b4⟩⟩
/-- not caught here: it goes on to the caller -/
theorem vx_widen {g : JFrame} {q : Addr} {k n : Nat} (h1 : cells ≤ k) (h2 : slots ≤ n) (kk : vx_W p l e R s m args below meth c H locs k n Q g q) : vx_W p l e R s m args below meth c H locs cells slots Q g q := fun T hT X => kk T hT (stand_widen X h1 h2)
theorem vx_out {pc : Nat} {E : String} {ce : Cell} {q : Addr} {mc ms : Nat} (hout : ∀ x ∈ c.exceptionTable.toList, covers x pc = false) (hlocks : meth.locks = false) (hcell : H[q]? = some ce) (hv : ce.vm = .none) (hcl : s.vm.findClass E = some ce.cls)
    (hx : ∀ t : State, t.heap = H → s.vm.Alike t.vm → XC E s t) (hf : ∀ z ∈ locs, free z.base) (hc : cells ≤ mc) (hs : slots ≤ ms) :
    vx_W p l e R s m args below meth c H locs cells slots (vx_MQ below Qc XC args s mc ms free) (F0 m pc ls rest) q := by
  intro T hT X
  obtain ⟨st1, hrun, hend, hW, hsm⟩ := X.leaveThrown q (g := F0 m pc ls rest) rfl rfl rfl hout hlocks
  have hcell9 : (T.setFrames (.throwing q :: below)).heap[q]? = some ce := by
    show T.heap[q]? = some ce
    rw [hT]; exact hcell
  exact ⟨_, st1, .threw q, hrun, hend, Or.inr ⟨q, rfl, E, ce, locs, hx _ hT hW.alike, hcell9, hv, hcl, hW, hsm.mono hc hs, hf⟩⟩
theorem vx_frame {U : State} {k n : Nat} (h : s.sameButNew ({ U with vm := s.vm } : State) locs k n) : s.heap.size ≤ U.heap.size ∧ ∀ q : Nat, q < s.heap.size → (∀ z ∈ locs, z.base ≠ q) → U.heap[q]? = s.heap[q]? := by
  obtain ⟨-, h2, -, -, -, h6⟩ := h
  refine ⟨h2, fun q hq hz => ?_⟩
  obtain ⟨c9, e1, e2, e3, e4⟩ := h6 q _ (Array.getElem?_eq_getElem hq)
  have hs : c9.slots = (s.heap[q]).slots := Array.ext_getElem? fun i => e4 i fun hm => hz _ hm rfl
  have h9 : c9 = s.heap[q] := by
    rw [hs] at e2
    exact e2
  have e5 : U.heap[q]? = some c9 := e1
  rw [e5, h9, Array.getElem?_eq_getElem hq]
/-- the words of a throw but the four that speak of the heap -/
def vx_no (w : Cond) : Bool := decide (w ≠ .isRef (.static Bundle.tN "UNASSIGNED_STACK" Bundle.steD)) && decide (w ≠ .isRef (.static Bundle.tN "SUPPRESSED_SENTINEL" Bundle.listD)) && decide (w ≠ .laysStatic Bundle.tN "UNASSIGNED_STACK" Bundle.steD) && decide (w ≠ .laysStatic Bundle.tN "SUPPRESSED_SENTINEL" Bundle.listD)
def vx_at0 (own : String) (ic : Nat) (X : String) (names : List String) : List Cond := (Bundle.ownAtoms0 own ic X names).filter vx_no
def vx_atS (own : String) (ic : Nat) (X : String) (names : List String) : List Cond := (Bundle.ownAtoms own ic X names).filter vx_no
/-- a word that the tables alone decide, or a good one -/
def vx_ot (w : Cond) : Bool := w.onTables || goodWord w
theorem vx_ot_at {args a' : Array Value} {s U : State} {w : Cond} (hW : s.WarmedH U.vm) (hvm : s.vm = U.vm) (hg : vx_ot w = true) (h : w.before args s = true) : w.before a' U = true := by
  simp only [vx_ot, Bool.or_eq_true] at hg
  rcases hg with hg | hg
  · exact va_tabs hg hvm h
  · exact word_at hW (good_of_word hg) h
/-- a list's words: the good ones out of the method's own list, the others by premises of their own -/
theorem vx_hat {args : Array Value} {s : State} {L B : List Cond} (h1 : ∀ w ∈ L.filter goodWord, w.before args s = true) (h2 : ∀ w ∈ L.filter (fun w => !goodWord w), w ∈ B) (h3 : ∀ w ∈ B, w.before args s = true) : ∀ w ∈ L, w.before args s = true := by
  intro w hw
  by_cases g : goodWord w = true
  · exact h1 w (List.mem_filter.mpr ⟨hw, g⟩)
  · refine h3 w (h2 w (List.mem_filter.mpr ⟨hw, ?_⟩))
    show (!goodWord w) = true
    cases hgw : goodWord w
    · rfl
    · exact absurd hgw g
theorem vx_c {args : Array Value} {s : State} {w : Cond} {B : List Cond} (h : w.before args s = true) (t : ∀ w ∈ B, w.before args s = true) : ∀ w' ∈ w :: B, w'.before args s = true := fun w' h' => (List.mem_cons.mp h').elim (fun e => by rw [e]; exact h) (t w')
theorem vx_n {args : Array Value} {s : State} : ∀ w ∈ ([] : List Cond), w.before args s = true := fun _ h => nomatch h
theorem vx_own {args : Array Value} {s : State} {L : List Cond} (h1 : ∀ w ∈ L.filter vx_no, w.before args s = true)
    (hU : (Cond.isRef (.static Bundle.tN "UNASSIGNED_STACK" Bundle.steD)).before args s = true) (hN : (Cond.isRef (.static Bundle.tN "SUPPRESSED_SENTINEL" Bundle.listD)).before args s = true)
    (lU : (Cond.laysStatic Bundle.tN "UNASSIGNED_STACK" Bundle.steD).before args s = true) (lN : (Cond.laysStatic Bundle.tN "SUPPRESSED_SENTINEL" Bundle.listD).before args s = true) : ∀ w ∈ L, w.before args s = true := by
  intro w hw
  by_cases e1 : w = .isRef (.static Bundle.tN "UNASSIGNED_STACK" Bundle.steD)
  · rw [e1]; exact hU
  · by_cases e2 : w = .isRef (.static Bundle.tN "SUPPRESSED_SENTINEL" Bundle.listD)
    · rw [e2]; exact hN
    · by_cases e3 : w = .laysStatic Bundle.tN "UNASSIGNED_STACK" Bundle.steD
      · rw [e3]; exact lU
      · by_cases e4 : w = .laysStatic Bundle.tN "SUPPRESSED_SENTINEL" Bundle.listD
        · rw [e4]; exact lN
        · exact h1 w (List.mem_filter.mpr ⟨hw, by unfold vx_no; rw [decide_eq_true e1, decide_eq_true e2, decide_eq_true e3, decide_eq_true e4]; rfl⟩)
/-- where a static field lies, its class's statics cell in H -/
def vx_L (C n d : String) (A : Nat → Prop) (U : State) (H : Heap) : Prop := ∃ (c : ClassId) (k : Class) (i : Nat) (f : Field) (a : Nat) (cell : Cell), U.vm.findClass C = some c ∧ U.fieldFound? C n d = some (c, k, i, f) ∧ f.isStatic = true ∧ k.statics = some a ∧ H[a]? = some cell ∧ cell.vm.isStatics = true ∧ cell.cls = c ∧ f.slot < cell.slots.size ∧ k.staticTypes[f.slot]? = some f.type ∧ ¬ A a
theorem vx_L.moved {C n d : String} {A : Nat → Prop} {u U : State} {H : Heap} (hvm : u.vm.Alike U.vm) (h : vx_L C n d A u H) : vx_L C n d A U H := by
  obtain ⟨c, k, i, f, a, cell, h1, h2, h3, h4, h5, h6, h7, h8, h9, h10⟩ := h
  obtain ⟨k', hi', he⟩ := State.fieldFound?_setVm hvm h2
  exact ⟨c, k', i, f, a, cell, by rw [hvm.findClass]; exact h1, hi', h3, by rw [he]; exact h4, h5, h6, h7, h8, by rw [he]; exact h9, h10⟩
theorem vx_L.kept {C n d : String} {A : Nat → Prop} {U : State} {H H1 : Heap} (h : vx_L C n d A U H) (hq : ∀ a : Nat, a < H.size → ¬ A a → H1[a]? = H[a]?) : vx_L C n d A U H1 := by
  obtain ⟨c, k, i, f, a, cell, h1, h2, h3, h4, h5, h6, h7, h8, h9, h10⟩ := h
  exact ⟨c, k, i, f, a, cell, h1, h2, h3, h4, by rw [hq a (Array.getElem?_eq_some_iff.mp h5).1 h10]; exact h5, h6, h7, h8, h9, h10⟩
theorem vx_L.narrow {C n d : String} {A B : Nat → Prop} {U : State} {H : Heap} (h : vx_L C n d A U H) (hAB : ∀ q, B q → A q) : vx_L C n d B U H := by
  obtain ⟨c, k, i, f, a, cell, h1, h2, h3, h4, h5, h6, h7, h8, h9, h10⟩ := h
  exact ⟨c, k, i, f, a, cell, h1, h2, h3, h4, h5, h6, h7, h8, h9, fun z => h10 (hAB _ z)⟩
theorem vx_L.word {C n d : String} {A : Nat → Prop} {s : State} {args : Array Value} (h : vx_L C n d A s s.heap) : (Cond.laysStatic C n d).before args s = true := by
  obtain ⟨c, k, i, f, a, cell, h1, h2, h3, h4, h5, h6, h7, h8, h9, -⟩ := h
  show (Cond.laysStatic C n d).holds args s none s [] = true
  exact Cond.laysStatic_of h1 h2 h3 h4 h5 h6 h7 h8 h9
/-- .. and what it holds: null or some reference -/
def vx_Zq (C n d : String) (A : Nat → Prop) (U : State) (H : Heap) : Prop := va_Zq C n d A U H ∧ vx_L C n d A U H
theorem vx_Zq.moved {C n d : String} {A : Nat → Prop} {u U : State} {H : Heap} (hvm : u.vm.Alike U.vm) (h : vx_Zq C n d A u H) : vx_Zq C n d A U H := ⟨va_Zq.moved hvm h.1, vx_L.moved hvm h.2⟩
theorem vx_Zq.kept {C n d : String} {A : Nat → Prop} {U : State} {H H1 : Heap} (h : vx_Zq C n d A U H) (hq : ∀ a : Nat, a < H.size → ¬ A a → H1[a]? = H[a]?) : vx_Zq C n d A U H1 := ⟨va_Zq.kept h.1 hq, vx_L.kept h.2 hq⟩
theorem vx_Zq.narrow {C n d : String} {A B : Nat → Prop} {U : State} {H : Heap} (h : vx_Zq C n d A U H) (hAB : ∀ q, B q → A q) : vx_Zq C n d B U H := ⟨va_Zq.narrow h.1 hAB, vx_L.narrow h.2 hAB⟩
theorem vx_Zqof {args : Array Value} {s : State} {C n d : String} {A : Nat → Prop} (hl : (Cond.laysStatic C n d).before args s = true) (hini : (Cond.initialized C).before args s = true) (h : (Cond.isRef (.static C n d)).before args s = true) (hA : ∀ a : Nat, a < s.heap.size → ¬ A a) : vx_Zq C n d A s s.heap := by
  refine ⟨va_Zqof hl hini h hA, ?_⟩
  obtain ⟨c, k, i, f, a, cell, h1, h2, h3, h4, h5, h6, h7, h8, h9⟩ := Cond.laysStatic_spec hl
  exact ⟨c, k, i, f, a, cell, h1, h2, h3, h4, h5, h6, h7, h8, h9, hA a (Array.getElem?_eq_some_iff.mp h5).1⟩
theorem vx_isRef {C n d : String} {v : Value} {A : Nat → Prop} {s : State} {args : Array Value} (h : va_Z C n d v A s s.heap) (hv : v.isRef = true) : (Cond.isRef (.static C n d)).before args s = true := by
  obtain ⟨cf, kf, fi, f, a, cell, h1, h2, h3, h4, h5, h6, h7, -⟩ := h
  have he : (Term.static C n d).eval args s none [] s = some v := by
    simp [Term.eval, State.fieldNamed?, h1, h2, h4, h5, h6, h7]
  simp only [Cond.before, Cond.holds, Cond.value, he]
  cases v <;> simp_all [Value.isRef]
theorem vx_isRefq {C n d : String} {A : Nat → Prop} {s : State} {args : Array Value} (h : va_Zq C n d A s s.heap) : (Cond.isRef (.static C n d)).before args s = true := by
  rcases h with h | ⟨t, h⟩
  · exact vx_isRef h rfl
  · exact vx_isRef h rfl
/-- the same frame, seen from here: as if the method were called anew in this heap -/
theorem vx_rebase {T : State} (X : Stand p l e R s m args below meth c T locs cells slots) {R' : Room} (hf : R'.frames ≤ R.frames) (hl : R'.locals ≤ R.locals) (hc : cells + R'.cells ≤ R.cells) (hs : slots + R'.slots ≤ R.slots) :
    Stand p l e R' ((T.setVm s.vm).setFrames (.invoking m args :: below)) m args below meth c T [] 0 0 := by
  have htop : (T.setVm s.vm).topJava?.isSome := X.here.top
  have hF : ((T.setVm s.vm).setFrames (.invoking m args :: below)).frames = .invoking m args :: below := State.frames_setFrames _ (State.cur_lt_of_top htop)
  obtain ⟨g₀, hg0⟩ := Option.isSome_iff_exists.mp htop
  obtain ⟨r, hr⟩ := State.topJava?_eq_some.mp hg0
  have hl9 : e.platform.stackLimits (T.setVm s.vm).me = e.platform.stackLimits s.me := X.limits
  have hb9 : (T.setVm s.vm).me.stackBytes = s.me.stackBytes := X.bytes
  refine ⟨X.admits, X.cas, X.clock, hF, ?_, X.hears, X.method, X.code, X.here, X.tail, X.warmed, ?_, ?_, ?_⟩
  · have h := X.room
    have hU : ((T.setVm s.vm).setFrames (.invoking m args :: below)).localsInUse = s.localsInUse := by
      rw [State.localsInUse_invoking hF (meth := meth) (c := c) X.method X.code, State.localsInUse_invoking X.frames X.method X.code]
    simp only [State.hasRoom, Bool.and_eq_true, decide_eq_true_eq] at h ⊢
    obtain ⟨⟨⟨⟨h1, h2, h3, h4, h5, h6⟩, h7⟩, h8⟩, h9⟩ := h
    rw [X.frames, List.length_cons] at h2 h3
    have q1 := X.heapSize
    have q2 := X.used
    simp only [hF, hU, List.length_cons, State.stackLimits_setFrames, State.stackBytes_setFrames, hl9, hb9]
    refine ⟨⟨⟨⟨by omega, by omega, by omega, by omega, by omega, h6⟩, ?_⟩, ?_⟩, X.book⟩
    · show T.heap.size + R'.cells ≤ e.platform.maxCells
      omega
    · show T.slotsUsed + R'.slots ≤ e.platform.maxSlots
      omega
  · rw [State.stackLimits_setFrames]; rfl
  · rw [State.stackBytes_setFrames]; rfl
  · refine ⟨?_, Nat.le_refl _, Nat.le_refl _, ?_, ?_, fun a c9 h9 => ⟨c9, h9, rfl, rfl, fun _ _ => rfl⟩⟩
    · obtain ⟨t, ht, -⟩ := State.frames_cons hr
      show T.setVm s.vm = { ((T.setVm s.vm).setFrames (.invoking m args :: below)).setFrames (T.setVm s.vm).frames with heap := T.heap, slotsUsed := T.slotsUsed }
      rw [State.setFrames_setFrames, State.setFrames_self ht]
      rfl
    · show T.slotsUsed = T.slotsUsed + ((T.heap.toList.drop T.heap.size).map (·.slots.size)).sum
      rw [List.drop_eq_nil_of_le (Nat.le_of_eq Array.length_toList)]
      rfl
    · show ((T.heap.toList.drop T.heap.size).map (·.slots.size)).sum ≤ 0
      rw [List.drop_eq_nil_of_le (Nat.le_of_eq Array.length_toList)]
      exact Nat.le_refl _
/-- 'throw new E()': new; dup; invokespecial; athrow -/
theorem vx_throw0 {cc : ByteArray} {pc : Nat} (hexec : p.tables.exec = Jvm.exec) (hb : c.code = cc) (hl : l.stackTraces = false) {own cls : String} {names : List String} {ik ic mc ms : Nat} {A : Nat → Prop}
    (hown : s.vm.findClass own = some m.cls) (hcls : Bundle.fit cls = true) (hnames : ∀ n ∈ names, Bundle.fit n = true)
    (hk : (Cond.classLink own ik cls).before args s = true) (hini : (Cond.initialized cls).before args s = true) (hat : ∀ w ∈ vx_at0 own ic cls names, w.before args s = true)
    (hgood : ∀ w ∈ Cond.classLink own ik cls :: Cond.initialized cls :: vx_at0 own ic cls names, vx_ot w = true)
    (hU : vx_Zq Bundle.tN "UNASSIGNED_STACK" Bundle.steD A s s.heap) (hN : vx_Zq Bundle.tN "SUPPRESSED_SENTINEL" Bundle.listD A s s.heap) (hS : va_S A s.heap H locs) (hsize : ls.size = c.maxLocals)
    (d0 : decode cc pc = .ok (.new ik, 3)) (d3 : decode cc (pc + 3) = .ok (.dup, 1)) (d4 : decode cc (pc + 4) = .ok (.invokespecial ic, 3)) (d7 : decode cc (pc + 7) = .ok (.athrow, 1))
    (hout : ∀ x ∈ c.exceptionTable.toList, covers x (pc + 7) = false)
    (hRframes : names.length + 3 < R.frames) (hRlocals : (rest.map fun v => v.category).sum + (13 * (names.length + 1) + 42) ≤ R.locals) (hRcells : cells + 1 ≤ R.cells) (hRslots : slots + 6 ≤ R.slots) (hlocks : meth.locks = false)
    (hx : ∀ t : State, s.vm.Alike t.vm → H.size ≤ t.heap.size → (∀ q : Nat, q < H.size → t.heap[q]? = H[q]?) → XC cls s t)
    (hf : ∀ z ∈ locs, free z.base) (hc : cells + 1 ≤ mc) (hs : slots + 6 ≤ ms) :
    W p l e R s m args below meth c H locs cells slots (vx_MQ below Qc XC args s mc ms free) (F0 m pc ls rest) := by
  intro T hT X
  have htr : e.platform.stackTraces = false := (show e.platform.stackTraces = l.stackTraces by rw [X.admits.platform]).trans hl
  have Y := vx_rebase X (R' := { frames := R.frames, locals := R.locals, cells := 1, slots := 6 }) (Nat.le_refl _) (Nat.le_refl _) hRcells hRslots
  obtain ⟨s', hA⟩ : ∃ z, z = (T.setVm s.vm).setFrames (.invoking m args :: below) := ⟨_, rfl⟩
  rw [← hA] at Y
  have hvm : s'.vm = s.vm := by rw [hA]; rfl
  have hhp : s'.heap = H := by rw [hA]; exact hT
  have hW0 : s.WarmedH s'.vm := by rw [hvm]; exact State.WarmedH.refl s
  have hat' : ∀ w ∈ vx_at0 own ic cls names, w.before args s' = true := fun w hw => vx_ot_at hW0 hvm.symm (hgood w (List.mem_cons_of_mem _ (List.mem_cons_of_mem _ hw))) (hat w hw)
  have hk' : (Cond.classLink own ik cls).before args s' = true := vx_ot_at hW0 hvm.symm (hgood _ List.mem_cons_self) hk
  have hini' : (Cond.initialized cls).before args s' = true := vx_ot_at hW0 hvm.symm (hgood _ (List.mem_cons_of_mem _ List.mem_cons_self)) hini
  have hU' : vx_Zq Bundle.tN "UNASSIGNED_STACK" Bundle.steD A s' s'.heap := by rw [hhp]; exact vx_Zq.moved hW0.alike (hU.kept hS.2.1)
  have hN' : vx_Zq Bundle.tN "SUPPRESSED_SENTINEL" Bundle.listD A s' s'.heap := by rw [hhp]; exact vx_Zq.moved hW0.alike (hN.kept hS.2.1)
  have h : ∀ w ∈ Bundle.ownAtoms0 own ic cls names, w.before args s' = true := vx_own hat' (vx_isRefq hU'.1) (vx_isRefq hN'.1) hU'.2.word hN'.2.word
  have hown' : s'.vm.findClass own = some m.cls := by rw [hvm]; exact hown
  have hins : (Cond.instantiable cls 6).before args s' = true := h _ (by simp [Bundle.ownAtoms0])
  obtain ⟨vm₁, cX, kX, hfX, hkX, -, -, X₁, st1⟩ := Y.newCold hexec (own := own) (C := cls) (index := ik) (n := 6) hown' hk' hins hini'
    (g := F0 m pc ls rest) rfl (by rw [hb]; exact d0) (Nat.le_refl _) (Nat.le_refl _)
  generalize hT1 : (T.setVm vm₁).pushCell { cls := cX, slots := kX.instanceTypes.map defaultValue, vm := .none } = T1 at X₁ st1
  have hcat : (Value.ref T.heap.size).category = 1 := rfl
  have hcellA : T1.heap[T.heap.size]? = some (freshCell cX kX) := by rw [← hT1]; exact State.heap_pushCell_size _ _
  have d3' : decode c.code (pc + 3) = .ok (.dup, 1) := by rw [hb]; exact d3
  obtain ⟨U, hsteps, hrun, hend, hW, hsame, ce, hce, hO⟩ := X₁.ctorThrow0 hexec htr (own := own) (cls := cls) (names := names) (ic := ic) hown' hcls hnames h (fun x hx => nomatch hx) hfX hkX hcellA (by rw [hhp, hT]; exact Nat.le_refl _)
    (g := { method := m, pc := pc + 4, locals := ls, stack := .ref T.heap.size :: .ref T.heap.size :: rest, locked := none }) rfl hsize rfl rfl (rest := rest) rfl
    (by rw [hb]; exact d4) (by rw [hb]; exact d7) hout hRframes (by simp only [List.map_cons, List.sum_cons, hcat]; omega) hlocks
  obtain ⟨f1, f2⟩ := vx_frame hsame
  rw [hhp] at f1 f2
  have hWs : s.WarmedH U.vm := State.WarmedH.trans hW0 hW
  have hcl : s.vm.findClass cls = some ce.cls := by
    have h9 := hO.cls
    rw [hvm] at h9
    exact h9
  have hall : s.sameButNew ({ U with vm := s.vm } : State) locs mc ms := by
    subst hA
    obtain ⟨e1, e2⟩ := hsame
    rw [State.setFrames_setFrames] at e1
    have h2 : (T.setVm s.vm).sameButNew ({ U with vm := s.vm } : State) [] (0 + 1) (0 + 6) := ⟨e1, e2⟩
    have h3 := X.same.trans h2
    rw [List.append_nil] at h3
    exact h3.mono hc hs
  refine ⟨U, ?_, .threw T.heap.size, hrun, hend, Or.inr ⟨T.heap.size, rfl, cls, ce, locs, hx U hWs.alike f1 (fun q hq => f2 q hq (fun z hz => nomatch hz)), hce, hO.vm, hcl, hWs, hall, hf⟩⟩
  refine st1 _ ?_
  show Steps p.tables e below (T1.setTop { method := m, pc := pc + 3, locals := ls, stack := .ref T.heap.size :: rest, locked := none }) _
  jvm_step X₁.here [X₁.here.top, hexec, d3', Value.category]
  exact hsteps
/-- 'throw new E("text")': new; dup; ldc; invokespecial; athrow -/
theorem vx_throwS {cc : ByteArray} {pc : Nat} (hexec : p.tables.exec = Jvm.exec) (hb : c.code = cc) (hl : l.stackTraces = false) {own cls text : String} {names : List String} {ik is ic mc ms sa : Nat} {A : Nat → Prop}
    (hown : s.vm.findClass own = some m.cls) (hcls : Bundle.fit cls = true) (hnames : ∀ n ∈ names, Bundle.fit n = true)
    (hk : (Cond.classLink own ik cls).before args s = true) (hini : (Cond.initialized cls).before args s = true) (hstr : vk_R own is text sa s) (hat : ∀ w ∈ vx_atS own ic cls names, w.before args s = true)
    (hgood : ∀ w ∈ Cond.classLink own ik cls :: Cond.initialized cls :: vx_atS own ic cls names, vx_ot w = true)
    (hU : vx_Zq Bundle.tN "UNASSIGNED_STACK" Bundle.steD A s s.heap) (hN : vx_Zq Bundle.tN "SUPPRESSED_SENTINEL" Bundle.listD A s s.heap) (hS : va_S A s.heap H locs) (hsize : ls.size = c.maxLocals)
    (d0 : decode cc pc = .ok (.new ik, 3)) (d3 : decode cc (pc + 3) = .ok (.dup, 1)) (d4 : decode cc (pc + 4) = .ok (.ldc is, 2)) (d6 : decode cc (pc + 6) = .ok (.invokespecial ic, 3)) (d9 : decode cc (pc + 9) = .ok (.athrow, 1))
    (hout : ∀ x ∈ c.exceptionTable.toList, covers x (pc + 9) = false)
    (hRframes : names.length + 3 < R.frames) (hRlocals : (rest.map fun v => v.category).sum + (13 * (names.length + 1) + 43) ≤ R.locals) (hRcells : cells + 1 ≤ R.cells) (hRslots : slots + 6 ≤ R.slots) (hlocks : meth.locks = false)
    (hx : ∀ t : State, s.vm.Alike t.vm → H.size ≤ t.heap.size → (∀ q : Nat, q < H.size → t.heap[q]? = H[q]?) → XC cls s t)
    (hf : ∀ z ∈ locs, free z.base) (hc : cells + 1 ≤ mc) (hs : slots + 6 ≤ ms) :
    W p l e R s m args below meth c H locs cells slots (vx_MQ below Qc XC args s mc ms free) (F0 m pc ls rest) := by
  intro T hT X
  have htr : e.platform.stackTraces = false := (show e.platform.stackTraces = l.stackTraces by rw [X.admits.platform]).trans hl
  have Y := vx_rebase X (R' := { frames := R.frames, locals := R.locals, cells := 1, slots := 6 }) (Nat.le_refl _) (Nat.le_refl _) hRcells hRslots
  obtain ⟨s', hA⟩ : ∃ z, z = (T.setVm s.vm).setFrames (.invoking m args :: below) := ⟨_, rfl⟩
  rw [← hA] at Y
  have hvm : s'.vm = s.vm := by rw [hA]; rfl
  have hhp : s'.heap = H := by rw [hA]; exact hT
  have hW0 : s.WarmedH s'.vm := by rw [hvm]; exact State.WarmedH.refl s
  have hat' : ∀ w ∈ vx_atS own ic cls names, w.before args s' = true := fun w hw => vx_ot_at hW0 hvm.symm (hgood w (List.mem_cons_of_mem _ (List.mem_cons_of_mem _ hw))) (hat w hw)
  have hk' : (Cond.classLink own ik cls).before args s' = true := vx_ot_at hW0 hvm.symm (hgood _ List.mem_cons_self) hk
  have hini' : (Cond.initialized cls).before args s' = true := vx_ot_at hW0 hvm.symm (hgood _ (List.mem_cons_of_mem _ List.mem_cons_self)) hini
  have hU' : vx_Zq Bundle.tN "UNASSIGNED_STACK" Bundle.steD A s' s'.heap := by rw [hhp]; exact vx_Zq.moved hW0.alike (hU.kept hS.2.1)
  have hN' : vx_Zq Bundle.tN "SUPPRESSED_SENTINEL" Bundle.listD A s' s'.heap := by rw [hhp]; exact vx_Zq.moved hW0.alike (hN.kept hS.2.1)
  have h : ∀ w ∈ Bundle.ownAtoms own ic cls names, w.before args s' = true := vx_own hat' (vx_isRefq hU'.1) (vx_isRefq hN'.1) hU'.2.word hN'.2.word
  have hown' : s'.vm.findClass own = some m.cls := by rw [hvm]; exact hown
  have hins : (Cond.instantiable cls 6).before args s' = true := h _ (by simp [Bundle.ownAtoms])
  obtain ⟨vm₁, cX, kX, hfX, hkX, -, -, X₁, st1⟩ := Y.newCold hexec (own := own) (C := cls) (index := ik) (n := 6) hown' hk' hins hini'
    (g := F0 m pc ls rest) rfl (by rw [hb]; exact d0) (Nat.le_refl _) (Nat.le_refl _)
  generalize hT1 : (T.setVm vm₁).pushCell { cls := cX, slots := kX.instanceTypes.map defaultValue, vm := .none } = T1 at X₁ st1
  have hcat : (Value.ref T.heap.size).category = 1 := rfl
  have hcellA : T1.heap[T.heap.size]? = some (freshCell cX kX) := by rw [← hT1]; exact State.heap_pushCell_size _ _
  have d3' : decode c.code (pc + 3) = .ok (.dup, 1) := by rw [hb]; exact d3
  have d4' : decode c.code (pc + 4) = .ok (.ldc is, 2) := by rw [hb]; exact d4
  have hstr' : vk_R own is text sa s' := vk_R.warm hW0 hstr
  obtain ⟨U, hsteps, hrun, hend, hW, hsame, ce, hce, hO⟩ := X₁.ctorThrowS hexec htr (own := own) (cls := cls) (names := names) (ic := ic) hown' hcls hnames h (fun x hx => nomatch hx) hfX hkX hcellA (by rw [hhp, hT]; exact Nat.le_refl _) (msg := .ref sa) rfl
    (g := { method := m, pc := pc + 6, locals := ls, stack := .ref sa :: .ref T.heap.size :: .ref T.heap.size :: rest, locked := none }) rfl hsize rfl rfl (rest := rest) rfl
    (by rw [hb]; exact d6) (by rw [hb]; exact d9) hout hRframes (by simp only [List.map_cons, List.sum_cons, hcat]; omega) hlocks
  obtain ⟨f1, f2⟩ := vx_frame hsame
  rw [hhp] at f1 f2
  have hWs : s.WarmedH U.vm := State.WarmedH.trans hW0 hW
  have hcl : s.vm.findClass cls = some ce.cls := by
    have h9 := hO.cls
    rw [hvm] at h9
    exact h9
  have hall : s.sameButNew ({ U with vm := s.vm } : State) locs mc ms := by
    subst hA
    obtain ⟨e1, e2⟩ := hsame
    rw [State.setFrames_setFrames] at e1
    have h2 : (T.setVm s.vm).sameButNew ({ U with vm := s.vm } : State) [] (0 + 1) (0 + 6) := ⟨e1, e2⟩
    have h3 := X.same.trans h2
    rw [List.append_nil] at h3
    exact h3.mono hc hs
  refine ⟨U, ?_, .threw T.heap.size, hrun, hend, Or.inr ⟨T.heap.size, rfl, cls, ce, locs, hx U hWs.alike f1 (fun q hq => f2 q hq (fun z hz => nomatch hz)), hce, hO.vm, hcl, hWs, hall, hf⟩⟩
  refine st1 _ ?_
  show Steps p.tables e below (T1.setTop { method := m, pc := pc + 3, locals := ls, stack := .ref T.heap.size :: rest, locked := none }) _
  jvm_step X₁.here [X₁.here.top, hexec, d3', Value.category]
  exact X₁.ldcString hexec (own := own) (text := text) (index := is) (a := sa) hown' hstr'.1 hstr'.2
    (g := { method := m, pc := pc + 4, locals := ls, stack := .ref T.heap.size :: .ref T.heap.size :: rest, locked := none }) rfl d4' _ hsteps
/-- 'throw new E("text")', the text by a wide index -/
theorem vx_throwSW {cc : ByteArray} {pc : Nat} (hexec : p.tables.exec = Jvm.exec) (hb : c.code = cc) (hl : l.stackTraces = false) {own cls text : String} {names : List String} {ik is ic mc ms sa : Nat} {A : Nat → Prop}
    (hown : s.vm.findClass own = some m.cls) (hcls : Bundle.fit cls = true) (hnames : ∀ n ∈ names, Bundle.fit n = true)
    (hk : (Cond.classLink own ik cls).before args s = true) (hini : (Cond.initialized cls).before args s = true) (hstr : vk_R own is text sa s) (hat : ∀ w ∈ vx_atS own ic cls names, w.before args s = true)
    (hgood : ∀ w ∈ Cond.classLink own ik cls :: Cond.initialized cls :: vx_atS own ic cls names, vx_ot w = true)
    (hU : vx_Zq Bundle.tN "UNASSIGNED_STACK" Bundle.steD A s s.heap) (hN : vx_Zq Bundle.tN "SUPPRESSED_SENTINEL" Bundle.listD A s s.heap) (hS : va_S A s.heap H locs) (hsize : ls.size = c.maxLocals)
    (d0 : decode cc pc = .ok (.new ik, 3)) (d3 : decode cc (pc + 3) = .ok (.dup, 1)) (d4 : decode cc (pc + 4) = .ok (.ldc_w is, 3)) (d7 : decode cc (pc + 7) = .ok (.invokespecial ic, 3)) (d10 : decode cc (pc + 10) = .ok (.athrow, 1))
    (hout : ∀ x ∈ c.exceptionTable.toList, covers x (pc + 10) = false)
    (hRframes : names.length + 3 < R.frames) (hRlocals : (rest.map fun v => v.category).sum + (13 * (names.length + 1) + 43) ≤ R.locals) (hRcells : cells + 1 ≤ R.cells) (hRslots : slots + 6 ≤ R.slots) (hlocks : meth.locks = false)
    (hx : ∀ t : State, s.vm.Alike t.vm → H.size ≤ t.heap.size → (∀ q : Nat, q < H.size → t.heap[q]? = H[q]?) → XC cls s t)
    (hf : ∀ z ∈ locs, free z.base) (hc : cells + 1 ≤ mc) (hs : slots + 6 ≤ ms) :
    W p l e R s m args below meth c H locs cells slots (vx_MQ below Qc XC args s mc ms free) (F0 m pc ls rest) := by
  intro T hT X
  have htr : e.platform.stackTraces = false := (show e.platform.stackTraces = l.stackTraces by rw [X.admits.platform]).trans hl
  have Y := vx_rebase X (R' := { frames := R.frames, locals := R.locals, cells := 1, slots := 6 }) (Nat.le_refl _) (Nat.le_refl _) hRcells hRslots
  obtain ⟨s', hA⟩ : ∃ z, z = (T.setVm s.vm).setFrames (.invoking m args :: below) := ⟨_, rfl⟩
  rw [← hA] at Y
  have hvm : s'.vm = s.vm := by rw [hA]; rfl
  have hhp : s'.heap = H := by rw [hA]; exact hT
  have hW0 : s.WarmedH s'.vm := by rw [hvm]; exact State.WarmedH.refl s
  have hat' : ∀ w ∈ vx_atS own ic cls names, w.before args s' = true := fun w hw => vx_ot_at hW0 hvm.symm (hgood w (List.mem_cons_of_mem _ (List.mem_cons_of_mem _ hw))) (hat w hw)
  have hk' : (Cond.classLink own ik cls).before args s' = true := vx_ot_at hW0 hvm.symm (hgood _ List.mem_cons_self) hk
  have hini' : (Cond.initialized cls).before args s' = true := vx_ot_at hW0 hvm.symm (hgood _ (List.mem_cons_of_mem _ List.mem_cons_self)) hini
  have hU' : vx_Zq Bundle.tN "UNASSIGNED_STACK" Bundle.steD A s' s'.heap := by rw [hhp]; exact vx_Zq.moved hW0.alike (hU.kept hS.2.1)
  have hN' : vx_Zq Bundle.tN "SUPPRESSED_SENTINEL" Bundle.listD A s' s'.heap := by rw [hhp]; exact vx_Zq.moved hW0.alike (hN.kept hS.2.1)
  have h : ∀ w ∈ Bundle.ownAtoms own ic cls names, w.before args s' = true := vx_own hat' (vx_isRefq hU'.1) (vx_isRefq hN'.1) hU'.2.word hN'.2.word
  have hown' : s'.vm.findClass own = some m.cls := by rw [hvm]; exact hown
  have hins : (Cond.instantiable cls 6).before args s' = true := h _ (by simp [Bundle.ownAtoms])
  obtain ⟨vm₁, cX, kX, hfX, hkX, -, -, X₁, st1⟩ := Y.newCold hexec (own := own) (C := cls) (index := ik) (n := 6) hown' hk' hins hini'
    (g := F0 m pc ls rest) rfl (by rw [hb]; exact d0) (Nat.le_refl _) (Nat.le_refl _)
  generalize hT1 : (T.setVm vm₁).pushCell { cls := cX, slots := kX.instanceTypes.map defaultValue, vm := .none } = T1 at X₁ st1
  have hcat : (Value.ref T.heap.size).category = 1 := rfl
  have hcellA : T1.heap[T.heap.size]? = some (freshCell cX kX) := by rw [← hT1]; exact State.heap_pushCell_size _ _
  have d3' : decode c.code (pc + 3) = .ok (.dup, 1) := by rw [hb]; exact d3
  have d4' : decode c.code (pc + 4) = .ok (.ldc_w is, 3) := by rw [hb]; exact d4
  have hstr' : vk_R own is text sa s' := vk_R.warm hW0 hstr
  obtain ⟨U, hsteps, hrun, hend, hW, hsame, ce, hce, hO⟩ := X₁.ctorThrowS hexec htr (own := own) (cls := cls) (names := names) (ic := ic) hown' hcls hnames h (fun x hx => nomatch hx) hfX hkX hcellA (by rw [hhp, hT]; exact Nat.le_refl _) (msg := .ref sa) rfl
    (g := { method := m, pc := pc + 7, locals := ls, stack := .ref sa :: .ref T.heap.size :: .ref T.heap.size :: rest, locked := none }) rfl hsize rfl rfl (rest := rest) rfl
    (by rw [hb]; exact d7) (by rw [hb]; exact d10) hout hRframes (by simp only [List.map_cons, List.sum_cons, hcat]; omega) hlocks
  obtain ⟨f1, f2⟩ := vx_frame hsame
  rw [hhp] at f1 f2
  have hWs : s.WarmedH U.vm := State.WarmedH.trans hW0 hW
  have hcl : s.vm.findClass cls = some ce.cls := by
    have h9 := hO.cls
    rw [hvm] at h9
    exact h9
  have hall : s.sameButNew ({ U with vm := s.vm } : State) locs mc ms := by
    subst hA
    obtain ⟨e1, e2⟩ := hsame
    rw [State.setFrames_setFrames] at e1
    have h2 : (T.setVm s.vm).sameButNew ({ U with vm := s.vm } : State) [] (0 + 1) (0 + 6) := ⟨e1, e2⟩
    have h3 := X.same.trans h2
    rw [List.append_nil] at h3
    exact h3.mono hc hs
  refine ⟨U, ?_, .threw T.heap.size, hrun, hend, Or.inr ⟨T.heap.size, rfl, cls, ce, locs, hx U hWs.alike f1 (fun q hq => f2 q hq (fun z hz => nomatch hz)), hce, hO.vm, hcl, hWs, hall, hf⟩⟩
  refine st1 _ ?_
  show Steps p.tables e below (T1.setTop { method := m, pc := pc + 3, locals := ls, stack := .ref T.heap.size :: rest, locked := none }) _
  jvm_step X₁.here [X₁.here.top, hexec, d3', Value.category]
  exact X₁.ldcStringW hexec (own := own) (text := text) (index := is) (a := sa) hown' hstr'.1 hstr'.2
    (g := { method := m, pc := pc + 4, locals := ls, stack := .ref T.heap.size :: .ref T.heap.size :: rest, locked := none }) rfl d4' _ hsteps
end Ends
section Bodies
variable {l : Launch}
theorem vx_ofW {y : MethodName} {ws ws' : List Cond} {rm : Room} {Pc : Array Value → State → Prop} {Qc : Array Value → State → Outcome → State → Prop} {XC : String → State → State → Prop} {mc ms : Nat} {free : Addr → Prop} {cc : ByteArray} {maxL : Nat} {ret : Option FieldType}
    (hy : plainName y.cls = true) (hw : ws = Cond.code y cc maxL ret :: ws')
    (body : ∀ p e s m args below meth c s₁, BodyLoose p l y (headSpec ws rm) cc maxL ret e s m args below meth c s₁ → c.maxLocals = maxL → (∀ x ∈ c.exceptionTable.toList, False) → Pc args s →
      W p l e (headSpec ws rm).room s m args below meth c s.heap [] 0 0 (vx_MQ below Qc XC args s mc ms free) (entryFrame m args maxL)) : vx_Met l y ws rm Pc Qc XC mc ms free := by
  refine MetFree.of_bodyS (code := cc) (maxLocals := maxL) (ret := ret) hy ?_ ?_
  · intro args s m h hn
    obtain ⟨meth, c, h1, h2, h3, h4, h5, h6, -, -⟩ := Cond.code_spec hn (atoms_spec (ws := ws) h _ (by rw [hw]; exact List.mem_cons_self))
    exact ⟨meth, c, h1, h2, h3, h4, h5, h6⟩
  · intro p e s m args below meth c s₁ B hml hP _
    have hh0 : s₁.heap = s.heap := by rw [B.state]; rfl
    have ht : ∀ x ∈ c.exceptionTable.toList, False := by
      obtain ⟨meth9, c9, h1, h2, -, -, -, -, h7, -⟩ := Cond.code_spec B.named (atoms_spec (ws := ws) B.pre _ (by rw [hw]; exact List.mem_cons_self))
      cases Option.some.inj (h1.symm.trans B.method)
      cases Option.some.inj (h2.symm.trans (Stand.of_body B).code)
      intro x hx
      rw [Array.isEmpty_iff.mp h7] at hx
      cases hx
    obtain ⟨t, a1, o, b1, b2, b3⟩ := body p e s m args below meth c s₁ B hml ht hP s₁ hh0 (Stand.of_body B)
    exact ⟨t, o, a1, b1, b2, b3⟩
/-- the table of a body with handlers -/
theorem vx_table {p : Program} {x y : MethodName} {S : Spec} {cc bytes : ByteArray} {maxL maxL' : Nat} {ret ret' : Option FieldType} {e : Env} {s s₁ : State} {m : MethodId} {args : Array Value} {below : List Frame} {meth : Method} {c : Code} {hh : List (Nat × Nat × Nat × Nat)}
    (B : BodyLoose p l y S cc maxL ret e s m args below meth c s₁) (h : (Cond.codeWith y bytes maxL' ret' hh).before args s = true) : c.exceptionTable.toList = tableOf hh := by
  obtain ⟨m9, meth9, c9, hn9, h1, h2, -, -, h6, -⟩ := Cond.codeWith_spec h
  cases Option.some.inj (hn9.symm.trans B.named)
  cases Option.some.inj (h1.symm.trans B.method)
  cases Option.some.inj (h2.symm.trans (Stand.of_body B).code)
  rw [← h6, table_eq]
end Bodies
end VXA
/-! ===== END ===== -/
/-! ===== BEGIN a static call of a method with an exception table ===== -/
section VXS
variable {p : Program} {l : Launch} {e : Env} {R : Room} {s : State} {m : MethodId} {args : Array Value} {below : List Frame} {meth : Method} {c : Code} {T : State} {H : Heap} {locs : List Loc} {cells slots : Nat}
abbrev vx_CSW (R : Room) (s : State) (args : Array Value) (own : String) (index : Nat) (y : MethodName) (bytes : ByteArray) (maxL : Nat) (ret : Option FieldType) (hh : List (Nat × Nat × Nat × Nat)) (ws : List Cond) (rm : Room) (mc ms n : Nat) : Prop :=
  (rm.cells = mc ∧ rm.slots = ms ∧ rm.frames + 1 ≤ R.frames ∧ 8 + (maxL + 11) + rm.locals ≤ R.locals ∧ (∀ w ∈ ws, ∀ (a' : Array Value) (U : State), s.WarmedH U.vm → w.before a' U = true) ∧ Cond.codeWith y bytes maxL ret hh ∈ ws) ∧
  (Cond.codeWith y bytes maxL ret hh).before args s = true ∧ (Cond.initialized y.cls).before args s = true ∧ (y.cls ≠ "java/lang/invoke/MethodHandle" ∧ y.cls ≠ "java/lang/invoke/VarHandle") ∧
  (∀ sig, parseMethodDescriptor y.desc = some sig → n = sig.parameters.length) ∧ (Cond.methodLink own index y).before args s = true ∧ (Cond.static y).before args s = true
theorem vx_cwSW {own : String} {index maxL mc ms : Nat} {y : MethodName} {bytes : ByteArray} {ret : Option FieldType} {hh : List (Nat × Nat × Nat × Nat)} {Ts ws ws' : List Cond} {rm : Room} (n : Nat) (ht : ∀ w ∈ Ts, w.before args s = true) (hT : GoodIn Ts (va_wsS own index y ws)) (hw : ws = Cond.codeWith y bytes maxL ret hh :: ws') (hrc : rm.cells = mc) (hrs : rm.slots = ms)
    (hd : y.cls ≠ "java/lang/invoke/MethodHandle" ∧ y.cls ≠ "java/lang/invoke/VarHandle" ∧ (parseMethodDescriptor y.desc).map (fun d => d.parameters.length) = some n) (hR : rm.frames + 1 ≤ R.frames ∧ 8 + (maxL + 11) + rm.locals ≤ R.locals) :
    vx_CSW R s args own index y bytes maxL ret hh ws rm mc ms n := by
  have ok : ∀ w ∈ va_wsS own index y ws, w.before args s = true := fun w h => ht w (hT w h).1
  have hG : GoodIn Ts ws := fun w h => hT w (by unfold va_wsS; exact List.mem_append_right _ h)
  have hc : Cond.codeWith y bytes maxL ret hh ∈ ws := by rw [hw]; exact List.mem_cons_self
  refine ⟨⟨hrc, hrs, hR.1, hR.2, pay_in ht hG, hc⟩, ht _ (hG _ hc).1, ok _ (by simp [va_wsS]), ⟨hd.1, hd.2.1⟩, fun sig h => ?_, ok _ (by simp [va_wsS]), ok _ (by simp [va_wsS])⟩
  have h2 := hd.2.2
  rw [h] at h2
  exact (Option.some.inj h2).symm
theorem vx_callSW (X : Stand p l e R s m args below meth c T locs cells slots) (hexec : p.tables.exec = Jvm.exec) {own : String} {index : Nat} {y : MethodName} {bytes : ByteArray} {maxL : Nat} {ret : Option FieldType} {hh : List (Nat × Nat × Nat × Nat)}
    (hown : s.vm.findClass own = some m.cls) (hlink : (Cond.methodLink own index y).before args s = true) (hstat : (Cond.static y).before args s = true) (hinit : (Cond.initialized y.cls).before args s = true)
    (hcode : (Cond.codeWith y bytes maxL ret hh).before args s = true) (hy : y.cls ≠ "java/lang/invoke/MethodHandle" ∧ y.cls ≠ "java/lang/invoke/VarHandle")
    {W9 : Nat} {Pre : Pt → Array Value → Prop} {Post : Pt → Array Value → Option Value → Pt → Prop} (hK : Back l R p e below s args y 3 W9 Pre Post)
    {g : JFrame} (hg : g.method = m) (hsize : g.locals.size = c.maxLocals) {argsL rest : List Value} (hlen : ∀ sig, parseMethodDescriptor y.desc = some sig → argsL.length = sig.parameters.length)
    (hstack : g.stack = argsL.reverse ++ rest) (hW : 2 * g.monitorRoom + (rest.map fun v => v.category).sum ≤ W9) (hdg : decode c.code g.pc = .ok (.invokestatic index, 3))
    (hpre : ∀ vm₁, s.WarmedH vm₁ → Pre ⟨T.setVm vm₁, locs, cells, slots⟩ argsL.toArray) :
    ∃ (v : Option Value) (vm₁ : Vm) (B : Pt), s.WarmedH vm₁ ∧ Stand p l e R s m args below meth c B.U B.locs B.cells B.slots ∧ Post ⟨T.setVm vm₁, locs, cells, slots⟩ argsL.toArray v B ∧
      ∀ target, Steps p.tables e below (B.U.setTop { g with pc := g.pc + 3, stack := v.toList ++ rest }) target → Steps p.tables e below (T.setTop g) target := by
  obtain ⟨mk, methM, cM, hnamed, hmethM, -, -, -, -, -, -, hsigM⟩ := Cond.codeWith_spec hcode
  have hstatic : methM.isStatic = true := Cond.static_spec hnamed hmethM hstat
  obtain ⟨kP, hkP, -⟩ := className_of_methodNamed hnamed
  have hinitP : kP.init = .initialized := Cond.initialized_spec (findClass_of_methodNamed hnamed) hkP hinit
  obtain ⟨vm₁, X₁, hstep₁⟩ := X.invokestatic hexec hown hlink hnamed hmethM hstatic hkP hinitP hy (g := g) hg (argsL := argsL) (rest := rest) (hlen _ hsigM) hstack hdg
  obtain ⟨v, B, X', hpost, hsteps⟩ := hK m meth c ⟨T.setVm vm₁, locs, cells, slots⟩ { g with stack := rest } (.invokestatic index) mk argsL.toArray X₁ hg hsize hdg hW (X₁.named hnamed) (hpre vm₁ X₁.warmed)
  exact ⟨v, vm₁, B, X₁.warmed, X', hpost, fun target h => hstep₁ _ fun acts => by rw [doInvoke_state]; exact hsteps.trans h⟩
theorem vx_runSW {y : MethodName} {bytes cc : ByteArray} {maxL nL mc ms n index : Nat} {ret : Option FieldType} {hh : List (Nat × Nat × Nat × Nat)} {ws : List Cond} {rm : Room} {Pc : Array Value → State → Prop} {Qc : Array Value → State → Outcome → State → Prop} {free : Addr → Prop} {Ts : List Cond} {own : String} {As rest : List Value} {g : JFrame}
    (S : CallFix p m c cc nL s args Ts own) (hM : Met l y ws rm Pc Qc mc ms free) (cw : vx_CSW R s args own index y bytes maxL ret hh ws rm mc ms n) (hp : PreS s H Pc As)
    (hg : g.method = m) (hn : As.length = n) (hsize : g.locals.size = nL) (hstack : g.stack = As.reverse ++ rest) (hW : 2 * g.monitorRoom + (rest.map fun v => v.category).sum ≤ 8) (hdg : decode cc g.pc = .ok (.invokestatic index, 3)) (hf : cells + mc ≤ R.cells ∧ slots + ms ≤ R.slots) :
    va_Run p l e R s m args below meth c H locs cells slots mc ms g rest (Qc As.toArray) (free) := by
  obtain ⟨⟨hrc, hrs, hfr, hlo, hws, hcw⟩, hcode, hini, hy, hlen, hl, hstt⟩ := cw
  have hK : Back l R p e below s args y 3 8 (PreOf R mc ms Pc) (PostOf Qc mc ms free) := va_backW (hh := hh) (bytes := bytes) (maxL := maxL) (ret := ret) hM hp.1 hrc hrs hfr hlo hws hcw (fun a' U hW => word_at hW (Or.inl (by first | rfl | simp [Cond.onTables, Cond.keeps, Cond.steady])) hini)
  obtain ⟨hx, hb, hml, ho, -⟩ := S
  intro T hT X
  obtain ⟨v, vm₁, ⟨U', l2, c2, s2⟩, hW₁, X', ⟨g', mk, t, L, e1, e2, hq, h1, hL, h2, h3⟩, st⟩ := vx_callSW X hx (hh := hh) (bytes := bytes) (maxL := maxL) (ret := ret) ho hl hstt hini hcode hy hK hg (hsize.trans hml.symm) (argsL := As) (rest := rest) (fun sig h => hn.trans (hlen sig h)) hstack hW (by rw [hb]; exact hdg)
    (fun vm₁ hW₁ => ⟨hf.1, hf.2, hp.2 (T.setVm vm₁) hT hW₁⟩)
  dsimp only [Pt.U, Pt.locs, Pt.cells, Pt.slots] at X' e1 e2 h1 h2 h3 st
  subst h1; subst h2; subst h3
  exact ⟨v, (T.setVm vm₁).calling g' mk As.toArray, t, U', L, hT, X', hL, e1, e2, hq, st⟩
/-- not caught here, past rows that name other classes: it goes on to the caller -/
theorem vx_outP {p : Program} {l : Launch} {e : Env} {R : Room} {s : State} {m : MethodId} {args : Array Value} {below : List Frame} {meth : Method} {c : Code} {H : Heap} {locs : List Loc} {cells slots : Nat} {free : Addr → Prop} {ls : Array Slot} {rest : List Value} {Qc : Array Value → State → Outcome → State → Prop} {XC : String → State → State → Prop}
    {pc : Nat} {own E : String} {ce : Cell} {q : Addr} {mc ms : Nat} (hown : s.vm.findClass own = some m.cls) (hlocks : meth.locks = false)
    (hpass : ∀ z ∈ c.exceptionTable.toList, covers z pc = false ∨ (z.catchType ≠ 0 ∧ ∃ nm : String, (Cond.classLink own z.catchType nm).before args s = true ∧ va_Nc E nm s)) (hcell : H[q]? = some ce) (hv : ce.vm = .none) (hcl : s.vm.findClass E = some ce.cls)
    (hx : ∀ t : State, t.heap = H → s.vm.Alike t.vm → XC E s t) (hf : ∀ z ∈ locs, free z.base) (hc : cells ≤ mc) (hs : slots ≤ ms) :
    vx_W p l e R s m args below meth c H locs cells slots (vx_MQ below Qc XC args s mc ms free) (F0 m pc ls rest) q := by
  intro T hT X
  have hpl : e.platform.magicAccessors = ({} : Platform).magicAccessors := by rw [X.admits.platform]
  obtain ⟨vm', hW', X', st⟩ := X.outThrough hlocks q (g := F0 m pc ls rest) rfl rfl rfl (cell := ce) (by rw [hT]; exact hcell) (by rw [hv]; rfl)
    (by obtain ⟨k9, h9, -⟩ := Vm.findClass_spec hcl; exact ⟨k9, h9⟩) (fun z hz => by
      rcases hpass z hz with h | ⟨hz0, nm, hl1, hn1⟩
      · exact Or.inl h
      · obtain ⟨c6, hc6, hcl6⟩ := Cond.classLink_spec hown hl1 e.platform hpl
        obtain ⟨a8, b8, h1, h2, h3⟩ := hn1
        cases Option.some.inj (h1.symm.trans hcl)
        cases Option.some.inj (h2.symm.trans hc6)
        exact Or.inr ⟨hz0, _, hcl6, h3⟩)
  obtain ⟨g₀, hfr⟩ := X'.frames_eq
  have hcell9 : ((T.setVm vm').setFrames (.throwing q :: below)).heap[q]? = some ce := by
    show T.heap[q]? = some ce
    rw [hT]; exact hcell
  have hend : Ended ((T.setVm vm').setFrames (.throwing q :: below)) below (.threw q) := State.frames_setFrames _ (State.cur_lt_of_frames hfr)
  refine ⟨(T.setVm vm').setFrames (.throwing q :: below), ?_, .threw q, X'.here.running, hend, Or.inr ⟨q, rfl, E, ce, locs, hx _ hT (X'.ends _).1.alike, hcell9, hv, hcl, (X'.ends _).1, (X'.ends _).2.mono hc hs, hf⟩⟩
  rw [X.pushThrowing_eq]
  exact st
/-- a thing of a world lies in the heap -/
theorem vx_lt {D : va_G} {cl : List vw_C} {ws : va_W} {H1 : Heap} (h : va_P D cl ws H1) {k : Nat} {q : Nat × va_E} (hk : ws[k]? = some q) : q.1 < H1.size := (h k q hk).lt
end VXS
/-! ===== END ===== -/
/-! ===== BEGIN methods with a table of their own: called by a name, returning or throwing ===== -/
section VXH
/-! vx_backW, vx_callVX, vx_callSX, vx_callVW, vx_runVW, vx_runVX, vx_runSX, vx_ofWH follow the same proofs as their sisters above (Free/Laws.lean, Shelf42/LK1.lean); vx_outP calls Shelf42/NT130.lean (outThrough). -/
section
variable {l : Launch} {R : Room} {p : Program} {e : Env} {below : List Frame} {s : State} {sargs : Array Value} {y : MethodName} {len W9 : Nat}
theorem vx_backW {ws : List Cond} {rm : Room} {Pc : Array Value → State → Prop} {Qc : Array Value → State → Outcome → State → Prop} {XC : String → State → State → Prop} {mc ms : Nat} {free : Addr → Prop} {bytes : ByteArray} {maxL : Nat} {ret : Option FieldType} {hh : List (Nat × Nat × Nat × Nat)}
    (hM : vx_Met l y ws rm Pc Qc XC mc ms free) (hblind : FrameBlind Pc) (hrc : rm.cells = mc) (hrs : rm.slots = ms)
    (hframes : rm.frames + 1 ≤ R.frames) (hlocals : W9 + (maxL + 11) + rm.locals ≤ R.locals)
    (hws : ∀ w ∈ ws, ∀ a' U, s.WarmedH U.vm → w.before a' U = true) (hcode : Cond.codeWith y bytes maxL ret hh ∈ ws) (hinit : ∀ a' U, s.WarmedH U.vm → (Cond.initialized y.cls).before a' U = true) :
    vx_Back l R p e below s sargs y len W9 (PreOf R mc ms Pc) (PostOf Qc mc ms free) (vx_Post XC mc ms free) := by
  intro m meth c A g ig mk a X hg hsize hdg hW hn hp
  have h1 : (headSpec ws rm).pre.before a A.U = true := atoms_intro fun w hw => hws w hw _ _ X.warmed
  have h2 : (Cond.codeWith y bytes maxL ret hh).before a A.U = true := hws _ hcode _ _ X.warmed
  have h3 : (Cond.initialized y.cls).before a A.U = true := hinit _ _ X.warmed
  have h4 : A.cells + (headSpec ws rm).room.cells ≤ R.cells := by rw [show (headSpec ws rm).room.cells = mc from hrc]; exact hp.1
  have h5 : A.slots + (headSpec ws rm).room.slots ≤ R.slots := by rw [show (headSpec ws rm).room.slots = ms from hrs]; exact hp.2.1
  have hPc : Pc a (A.U.calling g mk a) := hblind _ _ _ _ hp.2.2
  obtain ⟨U, Ls, c0, s0⟩ := A
  dsimp only [Pt.U, Pt.locs, Pt.cells, Pt.slots] at h1 h2 h3 h4 h5 X hn hPc ⊢
  obtain ⟨m9, methY, cY, hn9, hmY, hcY, -, hlY, -⟩ := Cond.codeWith_spec h2
  cases Option.some.inj (hn9.symm.trans hn)
  obtain ⟨kY, hkY, -⟩ := className_of_methodNamed hn
  have hinitY : kY.init = .initialized := Cond.initialized_spec (findClass_of_methodNamed hn) hkY h3
  have h : At U g.method c below := by rw [hg]; exact X.here
  have hlocals9 : W9 + (maxL + 11) + (headSpec ws rm).room.locals ≤ R.locals := hlocals
  have happ : (headSpec ws rm).appliesLoose y e.platform (U.calling g mk a) = true :=
    Spec.appliesLoose_calling (g := g) h hdg hn hkY hinitY
      (X.room_calling (g := g) (R' := (headSpec ws rm).room) hsize hmY hcY hframes (by rw [hlY]; omega) h4 h5) h1
  obtain ⟨mid, hmid⟩ := h.above
  have hfr : (U.setTop g).frames = (.java g :: mid) ++ below := by rw [State.frames_setTop' g h.top, hmid]; rfl
  obtain ⟨o, s₂, hsteps, -, hend, hq⟩ := Steps.callFree hM p X.admits X.cas X.clock (acts := []) hfr happ hPc trivial
  have hq' : vx_Q Qc XC mc ms free a (U.calling g mk a) o s₂ := hq
  rw [State.frames_setTop' g h.top] at hend
  obtain ⟨g₀, hg0⟩ := Option.isSome_iff_exists.mp h.top
  obtain ⟨r, hr⟩ := State.topJava?_eq_some.mp hg0
  have hr' : (({ U with heap := s₂.heap, slotsUsed := s₂.slotsUsed } : State).setVm s₂.vm).frames = .java g₀ :: r := hr
  rcases hq' with ⟨hqc, L, hfe, hL⟩ | ⟨q, rfl, E, ce, L, hx, hce, hcv, hcl, hW₂, hsm, hL⟩
  · obtain ⟨⟨v, rfl⟩, hW₂, e2, q2, q3, q4, q5, q6⟩ := id hfe
    have e3 : s₂ = ({ (U.calling g mk a).setFrames s₂.frames with heap := s₂.heap, slotsUsed := s₂.slotsUsed } : State).setVm s₂.vm := by
      have : s₂ = ({ s₂ with vm := (U.calling g mk a).vm } : State).setVm s₂.vm := rfl
      rw [e2] at this
      exact this
    obtain ⟨c₂, i₂, len₂, hc₂, hd₂, hf₂⟩ := hend
    have hW' : U.WarmedH s₂.vm := hW₂
    have hcc : c₂ = c := by
      have h1 : s₂.code? g.method = U.code? g.method := by
        rw [State.code?_eq, State.code?_eq, hW'.alike.method?]
      exact Option.some.inj (hc₂.symm.trans (h1.trans h.code))
    subst hcc
    have hlen : len₂ = len := by rw [hdg] at hd₂; cases hd₂; rfl
    subst hlen
    have hs₂ : s₂ = (({ U with heap := s₂.heap, slotsUsed := s₂.slotsUsed } : State).setVm s₂.vm).setTop { g with pc := g.pc + len₂, stack := v.toList ++ g.stack } := by
      refine e3.trans ?_
      rw [hf₂, State.calling_eq h.top, State.setFrames_setFrames, State.setTop_of_frames _ hr', hr]
      rfl
    have hsame : U.sameButNew ({ U with heap := s₂.heap, slotsUsed := s₂.slotsUsed } : State) L mc ms := by
      refine ⟨?_, q2, q3, q4, q5, q6⟩
      obtain ⟨t, ht, -⟩ := State.frames_cons hr
      show ({ U with heap := s₂.heap, slotsUsed := s₂.slotsUsed } : State) = { U.setFrames U.frames with heap := s₂.heap, slotsUsed := s₂.slotsUsed }
      rw [State.setFrames_self ht]
    subst hg
    refine Or.inl ⟨v, ⟨(({ U with heap := s₂.heap, slotsUsed := s₂.slotsUsed } : State).setVm s₂.vm), Ls ++ L, c0 + mc, s0 + ms⟩,
      ⟨X.admits, X.cas, X.clock, X.frames, X.room, X.hears, X.method, X.code, (X.here.setHeapUsed s₂.heap s₂.slotsUsed).setVm hW'.alike, X.tail, State.WarmedH.trans X.warmed hW', X.limits, X.bytes, X.same.trans (hsame.setVm s.vm)⟩,
      ⟨g, mk, s₂, L, rfl, rfl, hqc, rfl, hL, rfl, rfl⟩, ?_⟩
    show Steps p.tables e below _ ((({ U with heap := s₂.heap, slotsUsed := s₂.slotsUsed } : State).setVm s₂.vm).setTop { g with pc := g.pc + len₂, stack := v.toList ++ g.stack })
    rw [← hs₂]
    exact hsteps
  · obtain ⟨e2, q2, q3, q4, q5, q6⟩ := id hsm
    have e3 : s₂ = ({ (U.calling g mk a).setFrames s₂.frames with heap := s₂.heap, slotsUsed := s₂.slotsUsed } : State).setVm s₂.vm := by
      have : s₂ = ({ s₂ with vm := (U.calling g mk a).vm } : State).setVm s₂.vm := rfl
      rw [e2] at this
      exact this
    have hf₂ : s₂.frames = .throwing q :: .java g :: U.frames.tail := hend
    have hW' : U.WarmedH s₂.vm := hW₂
    have hs₂ : s₂ = ((({ U with heap := s₂.heap, slotsUsed := s₂.slotsUsed } : State).setVm s₂.vm).setTop g).pushFrame (.throwing q) := by
      refine e3.trans ?_
      rw [hf₂, State.calling_eq h.top, State.setFrames_setFrames, State.pushFrame, State.frames_setTop _ hr', State.setTop_of_frames _ hr', State.setFrames_setFrames, hr]
      rfl
    have hsame : U.sameButNew ({ U with heap := s₂.heap, slotsUsed := s₂.slotsUsed } : State) L mc ms := by
      refine ⟨?_, q2, q3, q4, q5, q6⟩
      obtain ⟨t, ht, -⟩ := State.frames_cons hr
      show ({ U with heap := s₂.heap, slotsUsed := s₂.slotsUsed } : State) = { U.setFrames U.frames with heap := s₂.heap, slotsUsed := s₂.slotsUsed }
      rw [State.setFrames_self ht]
    subst hg
    refine Or.inr ⟨q, ⟨(({ U with heap := s₂.heap, slotsUsed := s₂.slotsUsed } : State).setVm s₂.vm), Ls ++ L, c0 + mc, s0 + ms⟩,
      ⟨X.admits, X.cas, X.clock, X.frames, X.room, X.hears, X.method, X.code, (X.here.setHeapUsed s₂.heap s₂.slotsUsed).setVm hW'.alike, X.tail, State.WarmedH.trans X.warmed hW', X.limits, X.bytes, X.same.trans (hsame.setVm s.vm)⟩,
      ⟨g, mk, s₂, L, E, ce, rfl, rfl, hx, hce, hcv, hcl, rfl, hL, rfl, rfl⟩, ?_⟩
    show Steps p.tables e below _ (((({ U with heap := s₂.heap, slotsUsed := s₂.slotsUsed } : State).setVm s₂.vm).setTop g).pushFrame (.throwing q))
    rw [← hs₂]
    exact hsteps
end
variable {p : Program} {l : Launch} {e : Env} {R : Room} {s : State} {m : MethodId} {args : Array Value} {below : List Frame} {meth : Method} {c : Code} {T : State} {H : Heap} {locs : List Loc} {cells slots : Nat}
theorem vx_callVX (X : Stand p l e R s m args below meth c T locs cells slots) (hexec : p.tables.exec = Jvm.exec) {own C : String} {index : Nat} {y : MethodName} {bytes : ByteArray} {maxL : Nat} {ret : Option FieldType} {hh : List (Nat × Nat × Nat × Nat)}
    (hown : s.vm.findClass own = some m.cls) (hlink : (Cond.methodLink own index y).before args s = true) (hinst : (Cond.instanceMethod y).before args s = true) (hsel : (Cond.selects C y y).before args s = true)
    (hcode : (Cond.codeWith y bytes maxL ret hh).before args s = true) (hy : y.cls ≠ "java/lang/invoke/MethodHandle" ∧ y.cls ≠ "java/lang/invoke/VarHandle")
    {W9 : Nat} {Pre : Pt → Array Value → Prop} {Post : Pt → Array Value → Option Value → Pt → Prop} {PostX : Pt → Array Value → Addr → Pt → Prop} (hK : vx_Back l R p e below s args y 3 W9 Pre Post PostX)
    {b : Addr} {cellB : Cell} (hcell : T.heap[b]? = some cellB) (hobj : cellB.vm.isStatics = false) (hcls : s.vm.findClass C = some cellB.cls)
    {g : JFrame} (hg : g.method = m) (hsize : g.locals.size = c.maxLocals) {argsL rest : List Value} (hlen : ∀ sig, parseMethodDescriptor y.desc = some sig → argsL.length = sig.parameters.length)
    (hstack : g.stack = argsL.reverse ++ .ref b :: rest) (hW : 2 * g.monitorRoom + (rest.map fun v => v.category).sum ≤ W9) (hdg : decode c.code g.pc = .ok (.invokevirtual index, 3))
    (hpre : ∀ vm₁, s.WarmedH vm₁ → Pre ⟨T.setVm vm₁, locs, cells, slots⟩ (Value.ref b :: argsL).toArray) :
    (∃ (v : Option Value) (vm₁ : Vm) (B : Pt), s.WarmedH vm₁ ∧ Stand p l e R s m args below meth c B.U B.locs B.cells B.slots ∧ Post ⟨T.setVm vm₁, locs, cells, slots⟩ (Value.ref b :: argsL).toArray v B ∧
      ∀ target, Steps p.tables e below (B.U.setTop { g with pc := g.pc + 3, stack := v.toList ++ rest }) target → Steps p.tables e below (T.setTop g) target) ∨
    (∃ (q : Addr) (vm₁ : Vm) (B : Pt), s.WarmedH vm₁ ∧ Stand p l e R s m args below meth c B.U B.locs B.cells B.slots ∧ PostX ⟨T.setVm vm₁, locs, cells, slots⟩ (Value.ref b :: argsL).toArray q B ∧
      Steps p.tables e below (T.setTop g) ((B.U.setTop { g with stack := rest }).pushFrame (.throwing q))) := by
  obtain ⟨mk, methM, hnamed, hmethM, hstM, habM⟩ := Cond.instanceMethod_spec hinst
  obtain ⟨m8, methM', cM, hn8, hmethM', -, -, -, -, -, -, hsigM⟩ := Cond.codeWith_spec hcode
  cases Option.some.inj (hn8.symm.trans hnamed)
  cases hmethM.symm.trans hmethM'
  obtain ⟨c2, r2, m2, q1, q2, q3, q4, kP, hkP, hkPi⟩ := Cond.selects_spec hsel
  cases hcls.symm.trans q1
  cases (State.methodFound?_of_named hnamed hy).symm.trans q2
  cases hnamed.symm.trans q3
  have hselP : selectMethod e.platform s.vm cellB.cls mk = .method mk := by rw [Launch.admits_selectMethod X.admits]; exact q4
  obtain ⟨vm₁, X₁, hstep₁⟩ := X.invokevirtual hexec hown hlink hnamed hmethM hstM hkP hkPi hy (a := b) (cell := cellB) hcell
    (fun z h => by rw [h] at hobj; cases hobj) hselP hmethM habM hkP hkPi (g := g) hg (argsL := argsL) (rest := rest) (hlen _ hsigM) hstack hdg
  rcases hK m meth c ⟨T.setVm vm₁, locs, cells, slots⟩ { g with stack := rest } (.invokevirtual index) mk (Value.ref b :: argsL).toArray X₁ hg hsize hdg hW (X₁.named hnamed) (hpre vm₁ X₁.warmed) with ⟨v, B, X', hpost, hsteps⟩ | ⟨q, B, X', hpost, hsteps⟩
  · exact Or.inl ⟨v, vm₁, B, X₁.warmed, X', hpost, fun target h => hstep₁ _ fun acts => by rw [doInvoke_state]; exact hsteps.trans h⟩
  · exact Or.inr ⟨q, vm₁, B, X₁.warmed, X', hpost, hstep₁ _ fun acts => by rw [doInvoke_state]; exact hsteps⟩
theorem vx_callSX (X : Stand p l e R s m args below meth c T locs cells slots) (hexec : p.tables.exec = Jvm.exec) {own : String} {index : Nat} {y : MethodName} {bytes : ByteArray} {maxL : Nat} {ret : Option FieldType} {hh : List (Nat × Nat × Nat × Nat)}
    (hown : s.vm.findClass own = some m.cls) (hlink : (Cond.methodLink own index y).before args s = true) (hstat : (Cond.static y).before args s = true) (hinit : (Cond.initialized y.cls).before args s = true)
    (hcode : (Cond.codeWith y bytes maxL ret hh).before args s = true) (hy : y.cls ≠ "java/lang/invoke/MethodHandle" ∧ y.cls ≠ "java/lang/invoke/VarHandle")
    {W9 : Nat} {Pre : Pt → Array Value → Prop} {Post : Pt → Array Value → Option Value → Pt → Prop} {PostX : Pt → Array Value → Addr → Pt → Prop} (hK : vx_Back l R p e below s args y 3 W9 Pre Post PostX)
    {g : JFrame} (hg : g.method = m) (hsize : g.locals.size = c.maxLocals) {argsL rest : List Value} (hlen : ∀ sig, parseMethodDescriptor y.desc = some sig → argsL.length = sig.parameters.length)
    (hstack : g.stack = argsL.reverse ++ rest) (hW : 2 * g.monitorRoom + (rest.map fun v => v.category).sum ≤ W9) (hdg : decode c.code g.pc = .ok (.invokestatic index, 3))
    (hpre : ∀ vm₁, s.WarmedH vm₁ → Pre ⟨T.setVm vm₁, locs, cells, slots⟩ argsL.toArray) :
    (∃ (v : Option Value) (vm₁ : Vm) (B : Pt), s.WarmedH vm₁ ∧ Stand p l e R s m args below meth c B.U B.locs B.cells B.slots ∧ Post ⟨T.setVm vm₁, locs, cells, slots⟩ argsL.toArray v B ∧
      ∀ target, Steps p.tables e below (B.U.setTop { g with pc := g.pc + 3, stack := v.toList ++ rest }) target → Steps p.tables e below (T.setTop g) target) ∨
    (∃ (q : Addr) (vm₁ : Vm) (B : Pt), s.WarmedH vm₁ ∧ Stand p l e R s m args below meth c B.U B.locs B.cells B.slots ∧ PostX ⟨T.setVm vm₁, locs, cells, slots⟩ argsL.toArray q B ∧
      Steps p.tables e below (T.setTop g) ((B.U.setTop { g with stack := rest }).pushFrame (.throwing q))) := by
  obtain ⟨mk, methM, cM, hnamed, hmethM, -, -, -, -, -, -, hsigM⟩ := Cond.codeWith_spec hcode
  have hstatic : methM.isStatic = true := Cond.static_spec hnamed hmethM hstat
  obtain ⟨kP, hkP, -⟩ := className_of_methodNamed hnamed
  have hinitP : kP.init = .initialized := Cond.initialized_spec (findClass_of_methodNamed hnamed) hkP hinit
  obtain ⟨vm₁, X₁, hstep₁⟩ := X.invokestatic hexec hown hlink hnamed hmethM hstatic hkP hinitP hy (g := g) hg (argsL := argsL) (rest := rest) (hlen _ hsigM) hstack hdg
  rcases hK m meth c ⟨T.setVm vm₁, locs, cells, slots⟩ { g with stack := rest } (.invokestatic index) mk argsL.toArray X₁ hg hsize hdg hW (X₁.named hnamed) (hpre vm₁ X₁.warmed) with ⟨v, B, X', hpost, hsteps⟩ | ⟨q, B, X', hpost, hsteps⟩
  · exact Or.inl ⟨v, vm₁, B, X₁.warmed, X', hpost, fun target h => hstep₁ _ fun acts => by rw [doInvoke_state]; exact hsteps.trans h⟩
  · exact Or.inr ⟨q, vm₁, B, X₁.warmed, X', hpost, hstep₁ _ fun acts => by rw [doInvoke_state]; exact hsteps⟩
theorem vx_callVW (X : Stand p l e R s m args below meth c T locs cells slots) (hexec : p.tables.exec = Jvm.exec) {own C : String} {index : Nat} {y : MethodName} {bytes : ByteArray} {maxL : Nat} {ret : Option FieldType} {hh : List (Nat × Nat × Nat × Nat)}
    (hown : s.vm.findClass own = some m.cls) (hlink : (Cond.methodLink own index y).before args s = true) (hinst : (Cond.instanceMethod y).before args s = true) (hsel : (Cond.selects C y y).before args s = true)
    (hcode : (Cond.codeWith y bytes maxL ret hh).before args s = true) (hy : y.cls ≠ "java/lang/invoke/MethodHandle" ∧ y.cls ≠ "java/lang/invoke/VarHandle")
    {W9 : Nat} {Pre : Pt → Array Value → Prop} {Post : Pt → Array Value → Option Value → Pt → Prop} (hK : Back l R p e below s args y 3 W9 Pre Post)
    {b : Addr} {cellB : Cell} (hcell : T.heap[b]? = some cellB) (hobj : cellB.vm.isStatics = false) (hcls : s.vm.findClass C = some cellB.cls)
    {g : JFrame} (hg : g.method = m) (hsize : g.locals.size = c.maxLocals) {argsL rest : List Value} (hlen : ∀ sig, parseMethodDescriptor y.desc = some sig → argsL.length = sig.parameters.length)
    (hstack : g.stack = argsL.reverse ++ .ref b :: rest) (hW : 2 * g.monitorRoom + (rest.map fun v => v.category).sum ≤ W9) (hdg : decode c.code g.pc = .ok (.invokevirtual index, 3))
    (hpre : ∀ vm₁, s.WarmedH vm₁ → Pre ⟨T.setVm vm₁, locs, cells, slots⟩ (Value.ref b :: argsL).toArray) :
    ∃ (v : Option Value) (vm₁ : Vm) (B : Pt), s.WarmedH vm₁ ∧ Stand p l e R s m args below meth c B.U B.locs B.cells B.slots ∧ Post ⟨T.setVm vm₁, locs, cells, slots⟩ (Value.ref b :: argsL).toArray v B ∧
      ∀ target, Steps p.tables e below (B.U.setTop { g with pc := g.pc + 3, stack := v.toList ++ rest }) target → Steps p.tables e below (T.setTop g) target := by
  obtain ⟨mk, methM, hnamed, hmethM, hstM, habM⟩ := Cond.instanceMethod_spec hinst
  obtain ⟨m8, methM', cM, hn8, hmethM', -, -, -, -, -, -, hsigM⟩ := Cond.codeWith_spec hcode
  cases Option.some.inj (hn8.symm.trans hnamed)
  cases hmethM.symm.trans hmethM'
  obtain ⟨c2, r2, m2, q1, q2, q3, q4, kP, hkP, hkPi⟩ := Cond.selects_spec hsel
  cases hcls.symm.trans q1
  cases (State.methodFound?_of_named hnamed hy).symm.trans q2
  cases hnamed.symm.trans q3
  have hselP : selectMethod e.platform s.vm cellB.cls mk = .method mk := by rw [Launch.admits_selectMethod X.admits]; exact q4
  obtain ⟨vm₁, X₁, hstep₁⟩ := X.invokevirtual hexec hown hlink hnamed hmethM hstM hkP hkPi hy (a := b) (cell := cellB) hcell
    (fun z h => by rw [h] at hobj; cases hobj) hselP hmethM habM hkP hkPi (g := g) hg (argsL := argsL) (rest := rest) (hlen _ hsigM) hstack hdg
  obtain ⟨v, B, X', hpost, hsteps⟩ := hK m meth c ⟨T.setVm vm₁, locs, cells, slots⟩ { g with stack := rest } (.invokevirtual index) mk (Value.ref b :: argsL).toArray X₁ hg hsize hdg hW (X₁.named hnamed) (hpre vm₁ X₁.warmed)
  exact ⟨v, vm₁, B, X₁.warmed, X', hpost, fun target h => hstep₁ _ fun acts => by rw [doInvoke_state]; exact hsteps.trans h⟩
abbrev vx_CVW (R : Room) (s : State) (args : Array Value) (own C : String) (index : Nat) (y : MethodName) (bytes : ByteArray) (maxL : Nat) (ret : Option FieldType) (hh : List (Nat × Nat × Nat × Nat)) (ws : List Cond) (rm : Room) (mc ms n : Nat) : Prop :=
  (rm.cells = mc ∧ rm.slots = ms ∧ rm.frames + 1 ≤ R.frames ∧ 8 + (maxL + 11) + rm.locals ≤ R.locals ∧ (∀ w ∈ ws, ∀ (a' : Array Value) (U : State), s.WarmedH U.vm → w.before a' U = true) ∧ Cond.codeWith y bytes maxL ret hh ∈ ws) ∧
  (Cond.codeWith y bytes maxL ret hh).before args s = true ∧ (Cond.initialized y.cls).before args s = true ∧ (y.cls ≠ "java/lang/invoke/MethodHandle" ∧ y.cls ≠ "java/lang/invoke/VarHandle") ∧
  (∀ sig, parseMethodDescriptor y.desc = some sig → n = sig.parameters.length) ∧ (Cond.methodLink own index y).before args s = true ∧ (Cond.instanceMethod y).before args s = true ∧ (Cond.selects C y y).before args s = true
theorem vx_cwVW {own C : String} {index maxL mc ms : Nat} {y : MethodName} {bytes : ByteArray} {ret : Option FieldType} {hh : List (Nat × Nat × Nat × Nat)} {Ts ws ws' : List Cond} {rm : Room} (n : Nat) (ht : ∀ w ∈ Ts, w.before args s = true) (hT : GoodIn Ts (wsV own index C y ws)) (hw : ws = Cond.codeWith y bytes maxL ret hh :: ws') (hrc : rm.cells = mc) (hrs : rm.slots = ms)
    (hd : y.cls = C ∧ y.cls ≠ "java/lang/invoke/MethodHandle" ∧ y.cls ≠ "java/lang/invoke/VarHandle" ∧ (parseMethodDescriptor y.desc).map (fun d => d.parameters.length) = some n) (hR : rm.frames + 1 ≤ R.frames ∧ 8 + (maxL + 11) + rm.locals ≤ R.locals) :
    vx_CVW R s args own C index y bytes maxL ret hh ws rm mc ms n := by
  obtain ⟨hC, hd⟩ := hd
  subst hC
  have ok : ∀ w ∈ wsV own index y.cls y ws, w.before args s = true := fun w h => ht w (hT w h).1
  have hG : GoodIn Ts ws := fun w h => hT w (by unfold wsV; exact List.mem_append_right _ h)
  have hc : Cond.codeWith y bytes maxL ret hh ∈ ws := by rw [hw]; exact List.mem_cons_self
  refine ⟨⟨hrc, hrs, hR.1, hR.2, pay_in ht hG, hc⟩, ht _ (hG _ hc).1, ok _ (by simp [wsV]), ⟨hd.1, hd.2.1⟩, fun sig h => ?_, ok _ (by simp [wsV]), ok _ (by simp [wsV]), ok _ (by simp [wsV])⟩
  have h2 := hd.2.2
  rw [h] at h2
  exact (Option.some.inj h2).symm
theorem vx_runVW {y : MethodName} {bytes cc : ByteArray} {maxL nL mc ms n index : Nat} {ret : Option FieldType} {hh : List (Nat × Nat × Nat × Nat)} {ws : List Cond} {rm : Room} {Pc : Array Value → State → Prop} {Qc : Array Value → State → Outcome → State → Prop} {free : Addr → Prop} {Ts : List Cond} {own C : String} {b : Addr} {As rest : List Value} {g : JFrame}
    (S : CallFix p m c cc nL s args Ts own) (hM : Met l y ws rm Pc Qc mc ms free) (cw : vx_CVW R s args own C index y bytes maxL ret hh ws rm mc ms n) (hp : PreV s H C b Pc As)
    (hg : g.method = m) (hn : As.length = n) (hsize : g.locals.size = nL) (hstack : g.stack = As.reverse ++ .ref b :: rest) (hW : 2 * g.monitorRoom + (rest.map fun v => v.category).sum ≤ 8) (hdg : decode cc g.pc = .ok (.invokevirtual index, 3)) (hf : cells + mc ≤ R.cells ∧ slots + ms ≤ R.slots) :
    va_Run p l e R s m args below meth c H locs cells slots mc ms g rest (Qc (Value.ref b :: As).toArray) free := by
  obtain ⟨⟨hrc, hrs, hfr, hlo, hws, hcw⟩, hcode, hini, hy, hlen, hl, hin, hse⟩ := cw
  have hK : Back l R p e below s args y 3 8 (PreOf R mc ms Pc) (PostOf Qc mc ms free) := va_backW (hh := hh) (bytes := bytes) (maxL := maxL) (ret := ret) hM hp.1 hrc hrs hfr hlo hws hcw (fun a' U hW => word_at hW (Or.inl (by first | rfl | simp [Cond.onTables, Cond.keeps, Cond.steady])) hini)
  obtain ⟨hx, hb, hml, ho, -⟩ := S
  obtain ⟨-, ⟨cellB, hcB, hoB, hclB⟩, hPc⟩ := hp
  intro T hT X
  obtain ⟨v, vm₁, ⟨U', l2, c2, s2⟩, hW₁, X', ⟨g', mk, t, L, e1, e2, hq, h1, hL, h2, h3⟩, st⟩ := vx_callVW X hx (C := C) (hh := hh) (bytes := bytes) (maxL := maxL) (ret := ret) ho hl hin hse hcode hy hK (by rw [hT]; exact hcB) hoB hclB hg (hsize.trans hml.symm) (argsL := As) (rest := rest) (fun sig h => hn.trans (hlen sig h)) hstack hW (by rw [hb]; exact hdg)
    (fun vm₁ hW₁ => ⟨hf.1, hf.2, hPc (T.setVm vm₁) hT hW₁⟩)
  dsimp only [Pt.U, Pt.locs, Pt.cells, Pt.slots] at X' e1 e2 h1 h2 h3 st
  subst h1; subst h2; subst h3
  exact ⟨v, (T.setVm vm₁).calling g' mk (Value.ref b :: As).toArray, t, U', L, hT, X', hL, e1, e2, hq, st⟩
section
variable {y : MethodName} {bytes cc : ByteArray} {maxL nL mc ms n index : Nat} {ret : Option FieldType} {ws : List Cond} {rm : Room} {Pc : Array Value → State → Prop} {Qc : Array Value → State → Outcome → State → Prop} {XC : String → State → State → Prop} {free : Addr → Prop} {Ts : List Cond} {own C : String} {b : Addr} {As rest : List Value} {g : JFrame}
theorem vx_runVX {hh : List (Nat × Nat × Nat × Nat)} (S : CallFix p m c cc nL s args Ts own) (hM : vx_Met l y ws rm Pc Qc XC mc ms free) (cw : vx_CVW R s args own C index y bytes maxL ret hh ws rm mc ms n) (hp : PreV s H C b Pc As)
    (hg : g.method = m) (hn : As.length = n) (hsize : g.locals.size = nL) (hstack : g.stack = As.reverse ++ .ref b :: rest) (hW : 2 * g.monitorRoom + (rest.map fun v => v.category).sum ≤ 8) (hdg : decode cc g.pc = .ok (.invokevirtual index, 3)) (hf : cells + mc ≤ R.cells ∧ slots + ms ≤ R.slots) :
    vx_Run p l e R s m args below meth c H locs cells slots mc ms g rest (Qc (Value.ref b :: As).toArray) XC free := by
  obtain ⟨⟨hrc, hrs, hfr, hlo, hws, hcw⟩, hcode, hini, hy, hlen, hl, hin, hse⟩ := cw
  have hK : vx_Back l R p e below s args y 3 8 (PreOf R mc ms Pc) (PostOf Qc mc ms free) (vx_Post XC mc ms free) := vx_backW (hh := hh) (bytes := bytes) (maxL := maxL) (ret := ret) hM hp.1 hrc hrs hfr hlo hws hcw (fun a' U hW => word_at hW (Or.inl (by first | rfl | simp [Cond.onTables, Cond.keeps, Cond.steady])) hini)
  obtain ⟨hx, hb, hml, ho, -⟩ := S
  obtain ⟨-, ⟨cellB, hcB, hoB, hclB⟩, hPc⟩ := hp
  intro T hT X
  rcases vx_callVX X hx (C := C) (hh := hh) (bytes := bytes) (maxL := maxL) (ret := ret) ho hl hin hse hcode hy hK (by rw [hT]; exact hcB) hoB hclB hg (hsize.trans hml.symm) (argsL := As) (rest := rest) (fun sig h => hn.trans (hlen sig h)) hstack hW (by rw [hb]; exact hdg)
    (fun vm₁ hW₁ => ⟨hf.1, hf.2, hPc (T.setVm vm₁) hT hW₁⟩) with ⟨v, vm₁, ⟨U', l2, c2, s2⟩, hW₁, X', ⟨g', mk, t, L, e1, e2, hq, h1, hL, h2, h3⟩, st⟩ | ⟨q, vm₁, ⟨U', l2, c2, s2⟩, hW₁, X', ⟨g', mk, t, L, E, ce, e1, e2, hq, hce, hcv, hcl, h1, hL, h2, h3⟩, st⟩
  · dsimp only [Pt.U, Pt.locs, Pt.cells, Pt.slots] at X' e1 e2 h1 h2 h3 st
    subst h1; subst h2; subst h3
    exact Or.inl ⟨v, (T.setVm vm₁).calling g' mk (Value.ref b :: As).toArray, t, U', L, hT, X', hL, e1, e2, hq, st⟩
  · dsimp only [Pt.U, Pt.locs, Pt.cells, Pt.slots] at X' e1 e2 h1 h2 h3 st hcl
    subst h1; subst h2; subst h3
    exact Or.inr ⟨q, (T.setVm vm₁).calling g' mk (Value.ref b :: As).toArray, t, U', L, E, ce, hT, X', hL, e1, e2, hq, hce, hcv, vx_cls hW₁ hcl, st⟩
theorem vx_runSX {hh : List (Nat × Nat × Nat × Nat)} (S : CallFix p m c cc nL s args Ts own) (hM : vx_Met l y ws rm Pc Qc XC mc ms free) (cw : vx_CSW R s args own index y bytes maxL ret hh ws rm mc ms n) (hp : PreS s H Pc As)
    (hg : g.method = m) (hn : As.length = n) (hsize : g.locals.size = nL) (hstack : g.stack = As.reverse ++ rest) (hW : 2 * g.monitorRoom + (rest.map fun v => v.category).sum ≤ 8) (hdg : decode cc g.pc = .ok (.invokestatic index, 3)) (hf : cells + mc ≤ R.cells ∧ slots + ms ≤ R.slots) :
    vx_Run p l e R s m args below meth c H locs cells slots mc ms g rest (Qc As.toArray) XC free := by
  obtain ⟨⟨hrc, hrs, hfr, hlo, hws, hcw⟩, hcode, hini, hy, hlen, hl, hstt⟩ := cw
  have hK : vx_Back l R p e below s args y 3 8 (PreOf R mc ms Pc) (PostOf Qc mc ms free) (vx_Post XC mc ms free) := vx_backW (hh := hh) (bytes := bytes) (maxL := maxL) (ret := ret) hM hp.1 hrc hrs hfr hlo hws hcw (fun a' U hW => word_at hW (Or.inl (by first | rfl | simp [Cond.onTables, Cond.keeps, Cond.steady])) hini)
  obtain ⟨hx, hb, hml, ho, -⟩ := S
  intro T hT X
  rcases vx_callSX X hx (hh := hh) (bytes := bytes) (maxL := maxL) (ret := ret) ho hl hstt hini hcode hy hK hg (hsize.trans hml.symm) (argsL := As) (rest := rest) (fun sig h => hn.trans (hlen sig h)) hstack hW (by rw [hb]; exact hdg)
    (fun vm₁ hW₁ => ⟨hf.1, hf.2, hp.2 (T.setVm vm₁) hT hW₁⟩) with ⟨v, vm₁, ⟨U', l2, c2, s2⟩, hW₁, X', ⟨g', mk, t, L, e1, e2, hq, h1, hL, h2, h3⟩, st⟩ | ⟨q, vm₁, ⟨U', l2, c2, s2⟩, hW₁, X', ⟨g', mk, t, L, E, ce, e1, e2, hq, hce, hcv, hcl, h1, hL, h2, h3⟩, st⟩
  · dsimp only [Pt.U, Pt.locs, Pt.cells, Pt.slots] at X' e1 e2 h1 h2 h3 st
    subst h1; subst h2; subst h3
    exact Or.inl ⟨v, (T.setVm vm₁).calling g' mk As.toArray, t, U', L, hT, X', hL, e1, e2, hq, st⟩
  · dsimp only [Pt.U, Pt.locs, Pt.cells, Pt.slots] at X' e1 e2 h1 h2 h3 st hcl
    subst h1; subst h2; subst h3
    exact Or.inr ⟨q, (T.setVm vm₁).calling g' mk As.toArray, t, U', L, E, ce, hT, X', hL, e1, e2, hq, hce, hcv, vx_cls hW₁ hcl, st⟩
end
end VXH
theorem vx_ofWH {l : Launch} {y : MethodName} {ws ws' : List Cond} {rm : Room} {Pc : Array Value → State → Prop} {Qc : Array Value → State → Outcome → State → Prop} {XC : String → State → State → Prop} {mc ms : Nat} {free : Addr → Prop} {cc : ByteArray} {maxL : Nat} {ret : Option FieldType} {hh : List (Nat × Nat × Nat × Nat)}
    (hy : plainName y.cls = true) (hw : ws = Cond.codeWith y cc maxL ret hh :: ws')
    (body : ∀ p e s m args below meth c s₁, BodyLoose p l y (headSpec ws rm) cc maxL ret e s m args below meth c s₁ → c.maxLocals = maxL → Pc args s →
      W p l e (headSpec ws rm).room s m args below meth c s.heap [] 0 0 (vx_MQ below Qc XC args s mc ms free) (entryFrame m args maxL)) : vx_Met l y ws rm Pc Qc XC mc ms free := by
  refine MetFree.of_bodyS (code := cc) (maxLocals := maxL) (ret := ret) hy ?_ ?_
  · intro args s m h hn
    obtain ⟨m9, meth, c, hn9, h1, h2, h3, h4, -, h5, h6, -⟩ := Cond.codeWith_spec (atoms_spec (ws := ws) h _ (by rw [hw]; exact List.mem_cons_self))
    cases hn.symm.trans hn9
    exact ⟨meth, c, h1, h2, h3, h4, h5, h6⟩
  · intro p e s m args below meth c s₁ B hml hP _
    have hh0 : s₁.heap = s.heap := by rw [B.state]; rfl
    obtain ⟨t, a1, o, b1, b2, b3⟩ := body p e s m args below meth c s₁ B hml hP s₁ hh0 (Stand.of_body B)
    exact ⟨t, o, a1, b1, b2, b3⟩
/-! ===== END ===== -/

/-! ===== BEGIN printed: names, fields, word lists, decode rows ===== -/
def RX0 : String := "GustMill$State"
def TX0 : u_T := fun k => match k with
  | 0 => ("GustMill$State", "winds", "[I", true)
  | 1 => ("GustMill$State", "sizes", "[I", true)
  | 2 => ("GustMill$State", "sacksUpon", "[I", true)
  | 3 => ("GustMill$State", "isFresh", "[Z", true)
  | 4 => ("GustMill$State", "bakers", "[I", true)
  | 5 => ("GustMill$State", "lefts", "[I", true)
  | 6 => ("GustMill$State", "untils", "[I", true)
  | 7 => ("GustMill$State", "stonesUnder", "[I", true)
  | 8 => ("GustMill$State", "groundHours", "[I", true)
  | 9 => ("GustMill$State", "hour", "I", false)
  | 10 => ("GustMill$State", "stoneCount", "I", false)
  | 11 => ("GustMill$State", "sackCount", "I", false)
  | 12 => ("GustMill$State", "groundCount", "I", false)
  | 13 => ("GustMill$State", "changeCount", "I", false)
  | 14 => ("GustMill$State", "rule", "I", false)
  | _ => ("GustMill$State", "isTakingOff", "Z", false)
def tyX0 : Nat → FieldType := fun k => match k with
  | 0 => .array .int
  | 1 => .array .int
  | 2 => .array .int
  | 3 => .array .boolean
  | 4 => .array .int
  | 5 => .array .int
  | 6 => .array .int
  | 7 => .array .int
  | 8 => .array .int
  | 9 => .int
  | 10 => .int
  | 11 => .int
  | 12 => .int
  | 13 => .int
  | 14 => .int
  | _ => .boolean
abbrev wsX00 : List Cond := u_ws RX0 TX0 16
theorem nmX0 : ∀ a, a < 16 → ∀ b, b < 16 → a ≠ b → (TX0 a).2.1 ≠ (TX0 b).2.1 := by decide +kernel
theorem tyX0_ok : ∀ k, k < 16 → parseFieldDescriptor (TX0 k).2.2.1 = some (tyX0 k) := by decide +kernel
abbrev cX0_init : ByteArray := prog_2_method_1_code
def yX0_init : MethodName := ⟨RX0, "<init>", "()V"⟩
abbrev cX0_become : ByteArray := prog_2_method_2_code
def yX0_become : MethodName := ⟨RX0, "become", "(LGustMill$State;)V"⟩
abbrev cX0_copyRow : ByteArray := prog_2_method_3_code
def yX0_copyRow : MethodName := ⟨RX0, "copyRow", "([I[I)V"⟩
abbrev cX0_placeStone : ByteArray := prog_2_method_4_code
def yX0_placeStone : MethodName := ⟨RX0, "placeStone", "(I)I"⟩
abbrev cX0_storeSack : ByteArray := prog_2_method_5_code
def yX0_storeSack : MethodName := ⟨RX0, "storeSack", "(III)I"⟩
abbrev cX0_run : ByteArray := prog_2_method_6_code
def yX0_run : MethodName := ⟨RX0, "run", "(I)I"⟩
abbrev cX0_takeOffUnwanted : ByteArray := prog_2_method_7_code
def yX0_takeOffUnwanted : MethodName := ⟨RX0, "takeOffUnwanted", "()V"⟩
abbrev cX0_fillStones : ByteArray := prog_2_method_8_code
def yX0_fillStones : MethodName := ⟨RX0, "fillStones", "()V"⟩
abbrev cX0_grind : ByteArray := prog_2_method_9_code
def yX0_grind : MethodName := ⟨RX0, "grind", "()I"⟩
abbrev cX0_finishSacks : ByteArray := prog_2_method_10_code
def yX0_finishSacks : MethodName := ⟨RX0, "finishSacks", "()V"⟩
abbrev cX0_clearStone : ByteArray := prog_2_method_11_code
def yX0_clearStone : MethodName := ⟨RX0, "clearStone", "(I)V"⟩
abbrev cX0_windOfHour : ByteArray := prog_2_method_12_code
def yX0_windOfHour : MethodName := ⟨RX0, "windOfHour", "()I"⟩
abbrev cX0_isGround : ByteArray := prog_2_method_13_code
def yX0_isGround : MethodName := ⟨RX0, "isGround", "(I)Z"⟩
abbrev cX0_firstByRule : ByteArray := prog_2_method_14_code
def yX0_firstByRule : MethodName := ⟨RX0, "firstByRule", "(Z)I"⟩
abbrev cX0_countAhead : ByteArray := prog_2_method_15_code
def yX0_countAhead : MethodName := ⟨RX0, "countAhead", "(I)I"⟩
abbrev cX0_isAhead : ByteArray := prog_2_method_16_code
def yX0_isAhead : MethodName := ⟨RX0, "isAhead", "(II)Z"⟩
abbrev cX0_hoursLate : ByteArray := prog_2_method_17_code
def yX0_hoursLate : MethodName := ⟨RX0, "hoursLate", "()I"⟩
def RX1 : String := "GustMill"
def TX1 : u_T := fun k => match k with
  | 0 => ("GustMill", "now", "LGustMill$State;", true)
  | _ => ("GustMill", "trial", "LGustMill$State;", true)
def tyX1 : Nat → FieldType := fun k => match k with
  | 0 => .object "GustMill$State"
  | _ => .object "GustMill$State"
abbrev wsX10 : List Cond := u_ws RX1 TX1 2
theorem nmX1 : ∀ a, a < 2 → ∀ b, b < 2 → a ≠ b → (TX1 a).2.1 ≠ (TX1 b).2.1 := by decide +kernel
theorem tyX1_ok : ∀ k, k < 2 → parseFieldDescriptor (TX1 k).2.2.1 = some (tyX1 k) := by decide +kernel
abbrev cX1_init : ByteArray := prog_1_method_1_code
def yX1_init : MethodName := ⟨RX1, "<init>", "()V"⟩
abbrev cX1_addStone : ByteArray := prog_1_method_2_code
def yX1_addStone : MethodName := ⟨RX1, "addStone", "(I)I"⟩
abbrev cX1_setWind : ByteArray := prog_1_method_3_code
def yX1_setWind : MethodName := ⟨RX1, "setWind", "(II)I"⟩
abbrev cX1_setRule : ByteArray := prog_1_method_4_code
def yX1_setRule : MethodName := ⟨RX1, "setRule", "(I)I"⟩
abbrev cX1_setTakingOff : ByteArray := prog_1_method_5_code
def yX1_setTakingOff : MethodName := ⟨RX1, "setTakingOff", "(Z)Z"⟩
abbrev cX1_bring : ByteArray := prog_1_method_6_code
def yX1_bring : MethodName := ⟨RX1, "bring", "(III)I"⟩
abbrev cX1_lift : ByteArray := prog_1_method_7_code
def yX1_lift : MethodName := ⟨RX1, "lift", "(I)I"⟩
abbrev cX1_setUntil : ByteArray := prog_1_method_8_code
def yX1_setUntil : MethodName := ⟨RX1, "setUntil", "(II)I"⟩
abbrev cX1_pass : ByteArray := prog_1_method_9_code
def yX1_pass : MethodName := ⟨RX1, "pass", "(I)I"⟩
abbrev cX1_hour : ByteArray := prog_1_method_10_code
def yX1_hour : MethodName := ⟨RX1, "hour", "()I"⟩
abbrev cX1_stones : ByteArray := prog_1_method_11_code
def yX1_stones : MethodName := ⟨RX1, "stones", "()I"⟩
abbrev cX1_sacks : ByteArray := prog_1_method_12_code
def yX1_sacks : MethodName := ⟨RX1, "sacks", "()I"⟩
abbrev cX1_rule : ByteArray := prog_1_method_13_code
def yX1_rule : MethodName := ⟨RX1, "rule", "()I"⟩
abbrev cX1_wind : ByteArray := prog_1_method_14_code
def yX1_wind : MethodName := ⟨RX1, "wind", "()I"⟩
abbrev cX1_sackOn : ByteArray := prog_1_method_15_code
def yX1_sackOn : MethodName := ⟨RX1, "sackOn", "(I)I"⟩
abbrev cX1_stoneOf : ByteArray := prog_1_method_16_code
def yX1_stoneOf : MethodName := ⟨RX1, "stoneOf", "(I)I"⟩
abbrev cX1_leftOf : ByteArray := prog_1_method_17_code
def yX1_leftOf : MethodName := ⟨RX1, "leftOf", "(I)I"⟩
abbrev cX1_untilOf : ByteArray := prog_1_method_18_code
def yX1_untilOf : MethodName := ⟨RX1, "untilOf", "(I)I"⟩
abbrev cX1_groundAt : ByteArray := prog_1_method_19_code
def yX1_groundAt : MethodName := ⟨RX1, "groundAt", "(I)I"⟩
abbrev cX1_ground : ByteArray := prog_1_method_20_code
def yX1_ground : MethodName := ⟨RX1, "ground", "()I"⟩
abbrev cX1_changes : ByteArray := prog_1_method_21_code
def yX1_changes : MethodName := ⟨RX1, "changes", "()I"⟩
abbrev cX1_first : ByteArray := prog_1_method_22_code
def yX1_first : MethodName := ⟨RX1, "first", "()I"⟩
abbrev cX1_placeOf : ByteArray := prog_1_method_23_code
def yX1_placeOf : MethodName := ⟨RX1, "placeOf", "(I)I"⟩
abbrev cX1_leftFor : ByteArray := prog_1_method_24_code
def yX1_leftFor : MethodName := ⟨RX1, "leftFor", "(I)I"⟩
abbrev cX1_late : ByteArray := prog_1_method_25_code
def yX1_late : MethodName := ⟨RX1, "late", "()I"⟩
abbrev cX1_willBeGroundAt : ByteArray := prog_1_method_26_code
def yX1_willBeGroundAt : MethodName := ⟨RX1, "willBeGroundAt", "(I)I"⟩
abbrev cX1_spareOf : ByteArray := prog_1_method_27_code
def yX1_spareOf : MethodName := ⟨RX1, "spareOf", "(I)I"⟩
abbrev cX1_lateWith : ByteArray := prog_1_method_28_code
def yX1_lateWith : MethodName := ⟨RX1, "lateWith", "(IZ)I"⟩
abbrev cX1_bestRule : ByteArray := prog_1_method_29_code
def yX1_bestRule : MethodName := ⟨RX1, "bestRule", "()I"⟩
abbrev cX1_wouldBeInTime : ByteArray := prog_1_method_30_code
def yX1_wouldBeInTime : MethodName := ⟨RX1, "wouldBeInTime", "(II)Z"⟩
abbrev cX1_groundIn : ByteArray := prog_1_method_31_code
def yX1_groundIn : MethodName := ⟨RX1, "groundIn", "(I)I"⟩
abbrev cX1_meanLeft : ByteArray := prog_1_method_32_code
def yX1_meanLeft : MethodName := ⟨RX1, "meanLeft", "()D"⟩
abbrev cX1_digest : ByteArray := prog_1_method_33_code
def yX1_digest : MethodName := ⟨RX1, "digest", "()J"⟩
abbrev cX1_mixSacks : ByteArray := prog_1_method_34_code
def yX1_mixSacks : MethodName := ⟨RX1, "mixSacks", "(J)J"⟩
abbrev cX1_mix : ByteArray := prog_1_method_35_code
def yX1_mix : MethodName := ⟨RX1, "mix", "(JI)J"⟩
abbrev cX1_lookAhead : ByteArray := prog_1_method_36_code
def yX1_lookAhead : MethodName := ⟨RX1, "lookAhead", "()V"⟩
abbrev cX1_requireSack : ByteArray := prog_1_method_37_code
def yX1_requireSack : MethodName := ⟨RX1, "requireSack", "(I)V"⟩
abbrev cX1_requireRule : ByteArray := prog_1_method_38_code
def yX1_requireRule : MethodName := ⟨RX1, "requireRule", "(I)V"⟩
abbrev cX1_requireBaker : ByteArray := prog_1_method_39_code
def yX1_requireBaker : MethodName := ⟨RX1, "requireBaker", "(I)V"⟩
abbrev cX1_requireGrain : ByteArray := prog_1_method_40_code
def yX1_requireGrain : MethodName := ⟨RX1, "requireGrain", "(I)V"⟩
abbrev cX1_requireUntil : ByteArray := prog_1_method_41_code
def yX1_requireUntil : MethodName := ⟨RX1, "requireUntil", "(I)V"⟩
abbrev cX1_requireHours : ByteArray := prog_1_method_42_code
def yX1_requireHours : MethodName := ⟨RX1, "requireHours", "(I)V"⟩
def RX2 : String := "GustMillModel"
def TX2 : u_T := fun k => match k with
  | 0 => ("GustMillModel", "thrown", "I", false)
  | 1 => ("GustMillModel", "stones", "I", false)
  | 2 => ("GustMillModel", "size", "[I", true)
  | 3 => ("GustMillModel", "wind", "[I", true)
  | 4 => ("GustMillModel", "rule", "I", false)
  | 5 => ("GustMillModel", "isAllowed", "Z", false)
  | 6 => ("GustMillModel", "sacks", "I", false)
  | 7 => ("GustMillModel", "baker", "[I", true)
  | 8 => ("GustMillModel", "until", "[I", true)
  | 9 => ("GustMillModel", "now", "[I", true)
  | 10 => ("GustMillModel", "kept", "[I", true)
  | _ => ("GustMillModel", "fresh", "[I", true)
def tyX2 : Nat → FieldType := fun k => match k with
  | 0 => .int
  | 1 => .int
  | 2 => .array .int
  | 3 => .array .int
  | 4 => .int
  | 5 => .boolean
  | 6 => .int
  | 7 => .array .int
  | 8 => .array .int
  | 9 => .array .int
  | 10 => .array .int
  | _ => .array .int
abbrev wsX20 : List Cond := u_ws RX2 TX2 12
theorem nmX2 : ∀ a, a < 12 → ∀ b, b < 12 → a ≠ b → (TX2 a).2.1 ≠ (TX2 b).2.1 := by decide +kernel
theorem tyX2_ok : ∀ k, k < 12 → parseFieldDescriptor (TX2 k).2.2.1 = some (tyX2 k) := by decide +kernel
abbrev cX2_init : ByteArray := prog_4_method_1_code
def yX2_init : MethodName := ⟨RX2, "<init>", "()V"⟩
abbrev cX2_thrown : ByteArray := prog_4_method_2_code
def yX2_thrown : MethodName := ⟨RX2, "thrown", "()I"⟩
abbrev cX2_fail : ByteArray := prog_4_method_3_code
def yX2_fail : MethodName := ⟨RX2, "fail", "(I)I"⟩
abbrev cX2_told : ByteArray := prog_4_method_4_code
def yX2_told : MethodName := ⟨RX2, "told", "(I)I"⟩
abbrev cX2_isIn : ByteArray := prog_4_method_5_code
def yX2_isIn : MethodName := ⟨RX2, "isIn", "(III)Z"⟩
abbrev cX2_isStone : ByteArray := prog_4_method_6_code
def yX2_isStone : MethodName := ⟨RX2, "isStone", "(I)Z"⟩
abbrev cX2_isSack : ByteArray := prog_4_method_7_code
def yX2_isSack : MethodName := ⟨RX2, "isSack", "(I)Z"⟩
abbrev cX2_keep : ByteArray := prog_4_method_8_code
def yX2_keep : MethodName := ⟨RX2, "keep", "()V"⟩
abbrev cX2_bringBack : ByteArray := prog_4_method_9_code
def yX2_bringBack : MethodName := ⟨RX2, "bringBack", "()V"⟩
abbrev cX2_isDone : ByteArray := prog_4_method_10_code
def yX2_isDone : MethodName := ⟨RX2, "isDone", "(I)Z"⟩
abbrev cX2_turn : ByteArray := prog_4_method_11_code
def yX2_turn : MethodName := ⟨RX2, "turn", "(I)I"⟩
abbrev cX2_ahead : ByteArray := prog_4_method_12_code
def yX2_ahead : MethodName := ⟨RX2, "ahead", "(I)I"⟩
abbrev cX2_next : ByteArray := prog_4_method_13_code
def yX2_next : MethodName := ⟨RX2, "next", "(Z)I"⟩
abbrev cX2_on : ByteArray := prog_4_method_14_code
def yX2_on : MethodName := ⟨RX2, "on", "(I)I"⟩
abbrev cX2_hourOn : ByteArray := prog_4_method_15_code
def yX2_hourOn : MethodName := ⟨RX2, "hourOn", "()V"⟩
abbrev cX2_hoursOn : ByteArray := prog_4_method_16_code
def yX2_hoursOn : MethodName := ⟨RX2, "hoursOn", "(I)V"⟩
abbrev cX2_addStone : ByteArray := prog_4_method_17_code
def yX2_addStone : MethodName := ⟨RX2, "addStone", "(I)I"⟩
abbrev cX2_setWind : ByteArray := prog_4_method_18_code
def yX2_setWind : MethodName := ⟨RX2, "setWind", "(II)I"⟩
abbrev cX2_setRule : ByteArray := prog_4_method_19_code
def yX2_setRule : MethodName := ⟨RX2, "setRule", "(I)I"⟩
abbrev cX2_setTakingOff : ByteArray := prog_4_method_20_code
def yX2_setTakingOff : MethodName := ⟨RX2, "setTakingOff", "(Z)Z"⟩
abbrev cX2_put : ByteArray := prog_4_method_21_code
def yX2_put : MethodName := ⟨RX2, "put", "(III)V"⟩
abbrev cX2_bring : ByteArray := prog_4_method_22_code
def yX2_bring : MethodName := ⟨RX2, "bring", "(III)I"⟩
abbrev cX2_lift : ByteArray := prog_4_method_23_code
def yX2_lift : MethodName := ⟨RX2, "lift", "(I)I"⟩
abbrev cX2_setUntil : ByteArray := prog_4_method_24_code
def yX2_setUntil : MethodName := ⟨RX2, "setUntil", "(II)I"⟩
abbrev cX2_pass : ByteArray := prog_4_method_25_code
def yX2_pass : MethodName := ⟨RX2, "pass", "(I)I"⟩
abbrev cX2_hour : ByteArray := prog_4_method_26_code
def yX2_hour : MethodName := ⟨RX2, "hour", "()I"⟩
abbrev cX2_stones : ByteArray := prog_4_method_27_code
def yX2_stones : MethodName := ⟨RX2, "stones", "()I"⟩
abbrev cX2_sacks : ByteArray := prog_4_method_28_code
def yX2_sacks : MethodName := ⟨RX2, "sacks", "()I"⟩
abbrev cX2_rule : ByteArray := prog_4_method_29_code
def yX2_rule : MethodName := ⟨RX2, "rule", "()I"⟩
abbrev cX2_wind : ByteArray := prog_4_method_30_code
def yX2_wind : MethodName := ⟨RX2, "wind", "()I"⟩
abbrev cX2_sackOn : ByteArray := prog_4_method_31_code
def yX2_sackOn : MethodName := ⟨RX2, "sackOn", "(I)I"⟩
abbrev cX2_of : ByteArray := prog_4_method_32_code
def yX2_of : MethodName := ⟨RX2, "of", "(II)I"⟩
abbrev cX2_stoneOf : ByteArray := prog_4_method_33_code
def yX2_stoneOf : MethodName := ⟨RX2, "stoneOf", "(I)I"⟩
abbrev cX2_leftOf : ByteArray := prog_4_method_34_code
def yX2_leftOf : MethodName := ⟨RX2, "leftOf", "(I)I"⟩
abbrev cX2_untilOf : ByteArray := prog_4_method_35_code
def yX2_untilOf : MethodName := ⟨RX2, "untilOf", "(I)I"⟩
abbrev cX2_groundAt : ByteArray := prog_4_method_36_code
def yX2_groundAt : MethodName := ⟨RX2, "groundAt", "(I)I"⟩
abbrev cX2_done : ByteArray := prog_4_method_37_code
def yX2_done : MethodName := ⟨RX2, "done", "()I"⟩
abbrev cX2_ground : ByteArray := prog_4_method_38_code
def yX2_ground : MethodName := ⟨RX2, "ground", "()I"⟩
abbrev cX2_changes : ByteArray := prog_4_method_39_code
def yX2_changes : MethodName := ⟨RX2, "changes", "()I"⟩
abbrev cX2_first : ByteArray := prog_4_method_40_code
def yX2_first : MethodName := ⟨RX2, "first", "()I"⟩
abbrev cX2_place : ByteArray := prog_4_method_41_code
def yX2_place : MethodName := ⟨RX2, "place", "(I)I"⟩
abbrev cX2_placeOf : ByteArray := prog_4_method_42_code
def yX2_placeOf : MethodName := ⟨RX2, "placeOf", "(I)I"⟩
abbrev cX2_rest : ByteArray := prog_4_method_43_code
def yX2_rest : MethodName := ⟨RX2, "rest", "(I)I"⟩
abbrev cX2_leftFor : ByteArray := prog_4_method_44_code
def yX2_leftFor : MethodName := ⟨RX2, "leftFor", "(I)I"⟩
abbrev cX2_lost : ByteArray := prog_4_method_45_code
def yX2_lost : MethodName := ⟨RX2, "lost", "(I)I"⟩
abbrev cX2_late : ByteArray := prog_4_method_46_code
def yX2_late : MethodName := ⟨RX2, "late", "()I"⟩
abbrev cX2_groundThen : ByteArray := prog_4_method_47_code
def yX2_groundThen : MethodName := ⟨RX2, "groundThen", "(I)I"⟩
abbrev cX2_willBeGroundAt : ByteArray := prog_4_method_48_code
def yX2_willBeGroundAt : MethodName := ⟨RX2, "willBeGroundAt", "(I)I"⟩
abbrev cX2_spareOf : ByteArray := prog_4_method_49_code
def yX2_spareOf : MethodName := ⟨RX2, "spareOf", "(I)I"⟩
abbrev cX2_lostBy : ByteArray := prog_4_method_50_code
def yX2_lostBy : MethodName := ⟨RX2, "lostBy", "(IZ)I"⟩
abbrev cX2_lateWith : ByteArray := prog_4_method_51_code
def yX2_lateWith : MethodName := ⟨RX2, "lateWith", "(IZ)I"⟩
abbrev cX2_best : ByteArray := prog_4_method_52_code
def yX2_best : MethodName := ⟨RX2, "best", "()I"⟩
abbrev cX2_bestRule : ByteArray := prog_4_method_53_code
def yX2_bestRule : MethodName := ⟨RX2, "bestRule", "()I"⟩
abbrev cX2_wouldBeInTime : ByteArray := prog_4_method_54_code
def yX2_wouldBeInTime : MethodName := ⟨RX2, "wouldBeInTime", "(II)Z"⟩
abbrev cX2_milledIn : ByteArray := prog_4_method_55_code
def yX2_milledIn : MethodName := ⟨RX2, "milledIn", "(I)I"⟩
abbrev cX2_groundIn : ByteArray := prog_4_method_56_code
def yX2_groundIn : MethodName := ⟨RX2, "groundIn", "(I)I"⟩
abbrev cX2_meanLeft : ByteArray := prog_4_method_57_code
def yX2_meanLeft : MethodName := ⟨RX2, "meanLeft", "()D"⟩
abbrev cX2_digest : ByteArray := prog_4_method_58_code
def yX2_digest : MethodName := ⟨RX2, "digest", "()J"⟩
def RJ9 : String := "java/lang/Math"
def TJ9 : u_T := fun k => match k with
  | _ => ("", "", "", false)
def tyJ9 : Nat → FieldType := fun k => match k with
  | _ => .int
abbrev wsJ90 : List Cond := u_ws RJ9 TJ9 0
theorem nmJ9 : ∀ a, a < 0 → ∀ b, b < 0 → a ≠ b → (TJ9 a).2.1 ≠ (TJ9 b).2.1 := by decide +kernel
theorem tyJ9_ok : ∀ k, k < 0 → parseFieldDescriptor (TJ9 k).2.2.1 = some (tyJ9 k) := by decide +kernel
abbrev cJ9_floorMod_7cf53 : ByteArray := prog_9_method_50_code
def yJ9_floorMod_7cf53 : MethodName := ⟨RJ9, "floorMod", "(II)I"⟩
abbrev cJ9_max_7cf53 : ByteArray := prog_9_method_65_code
def yJ9_max_7cf53 : MethodName := ⟨RJ9, "max", "(II)I"⟩
abbrev cJ9_min_7cf53 : ByteArray := prog_9_method_69_code
def yJ9_min_7cf53 : MethodName := ⟨RJ9, "min", "(II)I"⟩
def RJ0 : String := "java/lang/String"
def TJ0 : u_T := fun k => match k with
  | _ => ("", "", "", false)
def tyJ0 : Nat → FieldType := fun k => match k with
  | _ => .int
abbrev wsJ00 : List Cond := u_ws RJ0 TJ0 0
theorem nmJ0 : ∀ a, a < 0 → ∀ b, b < 0 → a ≠ b → (TJ0 a).2.1 ≠ (TJ0 b).2.1 := by decide +kernel
theorem tyJ0_ok : ∀ k, k < 0 → parseFieldDescriptor (TJ0 k).2.2.1 = some (tyJ0 k) := by decide +kernel
def RJ10 : String := "java/lang/System"
def TJ10 : u_T := fun k => match k with
  | _ => ("", "", "", false)
def tyJ10 : Nat → FieldType := fun k => match k with
  | _ => .int
abbrev wsJ100 : List Cond := u_ws RJ10 TJ10 0
theorem nmJ10 : ∀ a, a < 0 → ∀ b, b < 0 → a ≠ b → (TJ10 a).2.1 ≠ (TJ10 b).2.1 := by decide +kernel
theorem tyJ10_ok : ∀ k, k < 0 → parseFieldDescriptor (TJ10 k).2.2.1 = some (tyJ10 k) := by decide +kernel
def RL : String := "GustMillLaw"
abbrev cL_addStone : ByteArray := method_3_code
def yL_addStone : MethodName := ⟨RL, "addStone", "(LGustMill;I[J)I"⟩
abbrev cL_setWind : ByteArray := method_4_code
def yL_setWind : MethodName := ⟨RL, "setWind", "(LGustMill;II[J)I"⟩
abbrev cL_setRule : ByteArray := method_5_code
def yL_setRule : MethodName := ⟨RL, "setRule", "(LGustMill;I[J)I"⟩
abbrev cL_bring : ByteArray := method_6_code
def yL_bring : MethodName := ⟨RL, "bring", "(LGustMill;III[J)I"⟩
abbrev cL_lift : ByteArray := method_7_code
def yL_lift : MethodName := ⟨RL, "lift", "(LGustMill;I[J)I"⟩
abbrev cL_setUntil : ByteArray := method_8_code
def yL_setUntil : MethodName := ⟨RL, "setUntil", "(LGustMill;II[J)I"⟩
abbrev cL_pass : ByteArray := method_9_code
def yL_pass : MethodName := ⟨RL, "pass", "(LGustMill;I[J)I"⟩
abbrev cL_sackOn : ByteArray := method_10_code
def yL_sackOn : MethodName := ⟨RL, "sackOn", "(LGustMill;I[J)I"⟩
abbrev cL_stoneOf : ByteArray := method_11_code
def yL_stoneOf : MethodName := ⟨RL, "stoneOf", "(LGustMill;I[J)I"⟩
abbrev cL_leftOf : ByteArray := method_12_code
def yL_leftOf : MethodName := ⟨RL, "leftOf", "(LGustMill;I[J)I"⟩
abbrev cL_untilOf : ByteArray := method_13_code
def yL_untilOf : MethodName := ⟨RL, "untilOf", "(LGustMill;I[J)I"⟩
abbrev cL_groundAt : ByteArray := method_14_code
def yL_groundAt : MethodName := ⟨RL, "groundAt", "(LGustMill;I[J)I"⟩
abbrev cL_placeOf : ByteArray := method_15_code
def yL_placeOf : MethodName := ⟨RL, "placeOf", "(LGustMill;I[J)I"⟩
abbrev cL_leftFor : ByteArray := method_16_code
def yL_leftFor : MethodName := ⟨RL, "leftFor", "(LGustMill;I[J)I"⟩
abbrev cL_willBeGroundAt : ByteArray := method_17_code
def yL_willBeGroundAt : MethodName := ⟨RL, "willBeGroundAt", "(LGustMill;I[J)I"⟩
abbrev cL_spareOf : ByteArray := method_18_code
def yL_spareOf : MethodName := ⟨RL, "spareOf", "(LGustMill;I[J)I"⟩
abbrev cL_lateWith : ByteArray := method_19_code
def yL_lateWith : MethodName := ⟨RL, "lateWith", "(LGustMill;IZ[J)I"⟩
abbrev cL_wouldBeInTime : ByteArray := method_20_code
def yL_wouldBeInTime : MethodName := ⟨RL, "wouldBeInTime", "(LGustMill;II[J)I"⟩
abbrev cL_groundIn : ByteArray := method_21_code
def yL_groundIn : MethodName := ⟨RL, "groundIn", "(LGustMill;I[J)I"⟩
abbrev cL_law : ByteArray := code
def yL_law : MethodName := ⟨RL, "law", "([I)Z"⟩
def wsX0_init : List Cond := .code yX0_init cX0_init 2 none :: ([.methodLink RX0 3 objectInit, .instanceMethod objectInit, .code objectInit ⟨#[0xb1]⟩ 1 none, .arrayClass .int, .fieldLink RX0 9 "GustMill$State" "winds" "[I", .fieldLink RX0 15 "GustMill$State" "sizes" "[I", .fieldLink RX0 18 "GustMill$State" "sacksUpon" "[I", .arrayClass .boolean, .fieldLink RX0 21 "GustMill$State" "isFresh" "[Z", .fieldLink RX0 25 "GustMill$State" "bakers" "[I", .fieldLink RX0 28 "GustMill$State" "lefts" "[I", .fieldLink RX0 31 "GustMill$State" "untils" "[I", .fieldLink RX0 34 "GustMill$State" "stonesUnder" "[I", .fieldLink RX0 37 "GustMill$State" "groundHours" "[I", .fieldLink RX0 40 "GustMill$State" "hour" "I", .fieldLink RX0 44 "GustMill$State" "stoneCount" "I", .fieldLink RX0 47 "GustMill$State" "sackCount" "I", .fieldLink RX0 50 "GustMill$State" "groundCount" "I", .fieldLink RX0 53 "GustMill$State" "changeCount" "I", .fieldLink RX0 56 "GustMill$State" "rule" "I", .fieldLink RX0 59 "GustMill$State" "isTakingOff" "Z"] ++ wsX00)
def wsX0_copyRow : List Cond := .code yX0_copyRow cX0_copyRow 3 none :: ([])
def wsX0_become : List Cond := .code yX0_become cX0_become 2 none :: ([.fieldLink RX0 9 "GustMill$State" "winds" "[I", .fieldLink RX0 15 "GustMill$State" "sizes" "[I", .fieldLink RX0 18 "GustMill$State" "sacksUpon" "[I", .fieldLink RX0 25 "GustMill$State" "bakers" "[I", .fieldLink RX0 28 "GustMill$State" "lefts" "[I", .fieldLink RX0 31 "GustMill$State" "untils" "[I", .fieldLink RX0 34 "GustMill$State" "stonesUnder" "[I", .fieldLink RX0 37 "GustMill$State" "groundHours" "[I", .fieldLink RX0 40 "GustMill$State" "hour" "I", .fieldLink RX0 44 "GustMill$State" "stoneCount" "I", .fieldLink RX0 47 "GustMill$State" "sackCount" "I", .fieldLink RX0 50 "GustMill$State" "groundCount" "I", .fieldLink RX0 53 "GustMill$State" "changeCount" "I", .fieldLink RX0 56 "GustMill$State" "rule" "I", .fieldLink RX0 59 "GustMill$State" "isTakingOff" "Z", .methodLink RX0 63 yX0_copyRow, .static yX0_copyRow, .initialized RX0, .code yX0_copyRow cX0_copyRow 3 none] ++ wsX00)
def wsX0_placeStone : List Cond := .code yX0_placeStone cX0_placeStone 3 (some .int) :: ([.fieldLink RX0 44 "GustMill$State" "stoneCount" "I", .fieldLink RX0 15 "GustMill$State" "sizes" "[I", .fieldLink RX0 18 "GustMill$State" "sacksUpon" "[I"] ++ wsX00)
def wsX0_storeSack : List Cond := .code yX0_storeSack cX0_storeSack 5 (some .int) :: ([.fieldLink RX0 47 "GustMill$State" "sackCount" "I", .fieldLink RX0 25 "GustMill$State" "bakers" "[I", .fieldLink RX0 28 "GustMill$State" "lefts" "[I", .fieldLink RX0 31 "GustMill$State" "untils" "[I", .fieldLink RX0 34 "GustMill$State" "stonesUnder" "[I", .fieldLink RX0 37 "GustMill$State" "groundHours" "[I"] ++ wsX00)
def wsX0_isGround : List Cond := .code yX0_isGround cX0_isGround 2 (some .boolean) :: ([.fieldLink RX0 28 "GustMill$State" "lefts" "[I"] ++ wsX00)
def wsX0_isAhead : List Cond := .code yX0_isAhead cX0_isAhead 4 (some .boolean) :: ([.fieldLink RX0 56 "GustMill$State" "rule" "I", .fieldLink RX0 31 "GustMill$State" "untils" "[I", .fieldLink RX0 28 "GustMill$State" "lefts" "[I"] ++ wsX00)
def wsX0_countAhead : List Cond := .code yX0_countAhead cX0_countAhead 4 (some .int) :: ([.fieldLink RX0 47 "GustMill$State" "sackCount" "I", .methodLink RX0 101 yX0_isGround, .instanceMethod yX0_isGround, .selects RX0 yX0_isGround yX0_isGround, .initialized RX0, .code yX0_isGround cX0_isGround 2 (some .boolean), .fieldLink RX0 28 "GustMill$State" "lefts" "[I", .methodLink RX0 108 yX0_isAhead, .instanceMethod yX0_isAhead, .selects RX0 yX0_isAhead yX0_isAhead, .code yX0_isAhead cX0_isAhead 4 (some .boolean), .fieldLink RX0 56 "GustMill$State" "rule" "I", .fieldLink RX0 31 "GustMill$State" "untils" "[I"] ++ wsX00)
def wsX0_clearStone : List Cond := .code yX0_clearStone cX0_clearStone 3 none :: ([.fieldLink RX0 18 "GustMill$State" "sacksUpon" "[I", .fieldLink RX0 34 "GustMill$State" "stonesUnder" "[I"] ++ wsX00)
def wsX0_takeOffUnwanted : List Cond := .code yX0_takeOffUnwanted cX0_takeOffUnwanted 3 none :: ([.fieldLink RX0 44 "GustMill$State" "stoneCount" "I", .fieldLink RX0 18 "GustMill$State" "sacksUpon" "[I", .methodLink RX0 80 yX0_countAhead, .instanceMethod yX0_countAhead, .selects RX0 yX0_countAhead yX0_countAhead, .initialized RX0, .code yX0_countAhead cX0_countAhead 4 (some .int), .fieldLink RX0 47 "GustMill$State" "sackCount" "I", .methodLink RX0 101 yX0_isGround, .instanceMethod yX0_isGround, .selects RX0 yX0_isGround yX0_isGround, .code yX0_isGround cX0_isGround 2 (some .boolean), .fieldLink RX0 28 "GustMill$State" "lefts" "[I", .methodLink RX0 108 yX0_isAhead, .instanceMethod yX0_isAhead, .selects RX0 yX0_isAhead yX0_isAhead, .code yX0_isAhead cX0_isAhead 4 (some .boolean), .fieldLink RX0 56 "GustMill$State" "rule" "I", .fieldLink RX0 31 "GustMill$State" "untils" "[I", .methodLink RX0 84 yX0_clearStone, .instanceMethod yX0_clearStone, .selects RX0 yX0_clearStone yX0_clearStone, .code yX0_clearStone cX0_clearStone 3 none, .fieldLink RX0 34 "GustMill$State" "stonesUnder" "[I"] ++ wsX00)
def wsX0_firstByRule : List Cond := .code yX0_firstByRule cX0_firstByRule 5 (some .int) :: ([.fieldLink RX0 47 "GustMill$State" "sackCount" "I", .fieldLink RX0 34 "GustMill$State" "stonesUnder" "[I", .methodLink RX0 101 yX0_isGround, .instanceMethod yX0_isGround, .selects RX0 yX0_isGround yX0_isGround, .initialized RX0, .code yX0_isGround cX0_isGround 2 (some .boolean), .fieldLink RX0 28 "GustMill$State" "lefts" "[I", .methodLink RX0 108 yX0_isAhead, .instanceMethod yX0_isAhead, .selects RX0 yX0_isAhead yX0_isAhead, .code yX0_isAhead cX0_isAhead 4 (some .boolean), .fieldLink RX0 56 "GustMill$State" "rule" "I", .fieldLink RX0 31 "GustMill$State" "untils" "[I"] ++ wsX00)
def wsX0_fillStones : List Cond := .code yX0_fillStones cX0_fillStones 3 none :: ([.fieldLink RX0 44 "GustMill$State" "stoneCount" "I", .fieldLink RX0 18 "GustMill$State" "sacksUpon" "[I", .fieldLink RX0 21 "GustMill$State" "isFresh" "[Z", .fieldLink RX0 34 "GustMill$State" "stonesUnder" "[I", .fieldLink RX0 53 "GustMill$State" "changeCount" "I", .methodLink RX0 88 yX0_firstByRule, .instanceMethod yX0_firstByRule, .selects RX0 yX0_firstByRule yX0_firstByRule, .initialized RX0, .code yX0_firstByRule cX0_firstByRule 5 (some .int), .fieldLink RX0 47 "GustMill$State" "sackCount" "I", .methodLink RX0 101 yX0_isGround, .instanceMethod yX0_isGround, .selects RX0 yX0_isGround yX0_isGround, .code yX0_isGround cX0_isGround 2 (some .boolean), .fieldLink RX0 28 "GustMill$State" "lefts" "[I", .methodLink RX0 108 yX0_isAhead, .instanceMethod yX0_isAhead, .selects RX0 yX0_isAhead yX0_isAhead, .code yX0_isAhead cX0_isAhead 4 (some .boolean), .fieldLink RX0 56 "GustMill$State" "rule" "I", .fieldLink RX0 31 "GustMill$State" "untils" "[I"] ++ wsX00)
def wsJ9_floorMod_7cf53 : List Cond := .code yJ9_floorMod_7cf53 cJ9_floorMod_7cf53 3 (some .int) :: ([])
def wsX0_windOfHour : List Cond := .code yX0_windOfHour cX0_windOfHour 1 (some .int) :: ([.fieldLink RX0 9 "GustMill$State" "winds" "[I", .fieldLink RX0 40 "GustMill$State" "hour" "I", .methodLink RX0 105 yJ9_floorMod_7cf53, .static yJ9_floorMod_7cf53, .initialized RJ9, .code yJ9_floorMod_7cf53 cJ9_floorMod_7cf53 3 (some .int)] ++ wsX00)
def wsX0_grind : List Cond := .code yX0_grind cX0_grind 7 (some .int) :: ([.fieldLink RX0 44 "GustMill$State" "stoneCount" "I", .fieldLink RX0 18 "GustMill$State" "sacksUpon" "[I", .fieldLink RX0 21 "GustMill$State" "isFresh" "[Z", .fieldLink RX0 15 "GustMill$State" "sizes" "[I", .fieldLink RX0 28 "GustMill$State" "lefts" "[I", .methodLink RX0 95 Lib.Math.min.name, .static Lib.Math.min.name, .initialized "java/lang/Math", .code Lib.Math.min.name Lib.Math.min.code 2 (some .int), .methodLink RX0 92 yX0_windOfHour, .instanceMethod yX0_windOfHour, .selects RX0 yX0_windOfHour yX0_windOfHour, .initialized RX0, .code yX0_windOfHour cX0_windOfHour 1 (some .int), .fieldLink RX0 9 "GustMill$State" "winds" "[I", .fieldLink RX0 40 "GustMill$State" "hour" "I", .methodLink RX0 105 yJ9_floorMod_7cf53, .static yJ9_floorMod_7cf53, .initialized RJ9, .code yJ9_floorMod_7cf53 cJ9_floorMod_7cf53 3 (some .int)] ++ wsX00)
def wsX0_finishSacks : List Cond := .code yX0_finishSacks cX0_finishSacks 3 none :: ([.fieldLink RX0 44 "GustMill$State" "stoneCount" "I", .fieldLink RX0 18 "GustMill$State" "sacksUpon" "[I", .fieldLink RX0 37 "GustMill$State" "groundHours" "[I", .fieldLink RX0 40 "GustMill$State" "hour" "I", .fieldLink RX0 50 "GustMill$State" "groundCount" "I", .methodLink RX0 101 yX0_isGround, .instanceMethod yX0_isGround, .selects RX0 yX0_isGround yX0_isGround, .initialized RX0, .code yX0_isGround cX0_isGround 2 (some .boolean), .fieldLink RX0 28 "GustMill$State" "lefts" "[I", .methodLink RX0 84 yX0_clearStone, .instanceMethod yX0_clearStone, .selects RX0 yX0_clearStone yX0_clearStone, .code yX0_clearStone cX0_clearStone 3 none, .fieldLink RX0 34 "GustMill$State" "stonesUnder" "[I"] ++ wsX00)
def wsX0_run_r1 : List Cond := [Cond.fieldLink RX0 40 "GustMill$State" "hour" "I", Cond.fieldLink RX0 50 "GustMill$State" "groundCount" "I", Cond.fieldLink RX0 47 "GustMill$State" "sackCount" "I", Cond.fieldLink RX0 59 "GustMill$State" "isTakingOff" "Z", Cond.methodLink RX0 67 yX0_takeOffUnwanted, Cond.instanceMethod yX0_takeOffUnwanted, Cond.selects RX0 yX0_takeOffUnwanted yX0_takeOffUnwanted, Cond.initialized RX0, Cond.code yX0_takeOffUnwanted cX0_takeOffUnwanted 3 none, Cond.fieldLink RX0 44 "GustMill$State" "stoneCount" "I", Cond.fieldLink RX0 18 "GustMill$State" "sacksUpon" "[I", Cond.methodLink RX0 80 yX0_countAhead, Cond.instanceMethod yX0_countAhead, Cond.selects RX0 yX0_countAhead yX0_countAhead, Cond.code yX0_countAhead cX0_countAhead 4 (some .int), Cond.methodLink RX0 101 yX0_isGround, Cond.instanceMethod yX0_isGround, Cond.selects RX0 yX0_isGround yX0_isGround, Cond.code yX0_isGround cX0_isGround 2 (some .boolean), Cond.fieldLink RX0 28 "GustMill$State" "lefts" "[I", Cond.methodLink RX0 108 yX0_isAhead, Cond.instanceMethod yX0_isAhead, Cond.selects RX0 yX0_isAhead yX0_isAhead, Cond.code yX0_isAhead cX0_isAhead 4 (some .boolean)]
def wsX0_run_r2 : List Cond := [Cond.fieldLink RX0 56 "GustMill$State" "rule" "I", Cond.fieldLink RX0 31 "GustMill$State" "untils" "[I", Cond.methodLink RX0 84 yX0_clearStone, Cond.instanceMethod yX0_clearStone, Cond.selects RX0 yX0_clearStone yX0_clearStone, Cond.code yX0_clearStone cX0_clearStone 3 none, Cond.fieldLink RX0 34 "GustMill$State" "stonesUnder" "[I", Cond.methodLink RX0 70 yX0_fillStones, Cond.instanceMethod yX0_fillStones, Cond.selects RX0 yX0_fillStones yX0_fillStones, Cond.code yX0_fillStones cX0_fillStones 3 none, Cond.fieldLink RX0 21 "GustMill$State" "isFresh" "[Z", Cond.fieldLink RX0 53 "GustMill$State" "changeCount" "I", Cond.methodLink RX0 88 yX0_firstByRule, Cond.instanceMethod yX0_firstByRule, Cond.selects RX0 yX0_firstByRule yX0_firstByRule, Cond.code yX0_firstByRule cX0_firstByRule 5 (some .int), Cond.methodLink RX0 73 yX0_grind, Cond.instanceMethod yX0_grind, Cond.selects RX0 yX0_grind yX0_grind, Cond.code yX0_grind cX0_grind 7 (some .int), Cond.fieldLink RX0 15 "GustMill$State" "sizes" "[I", Cond.methodLink RX0 95 Lib.Math.min.name, Cond.static Lib.Math.min.name]
def wsX0_run_r3 : List Cond := [Cond.initialized "java/lang/Math", Cond.code Lib.Math.min.name Lib.Math.min.code 2 (some .int), Cond.methodLink RX0 92 yX0_windOfHour, Cond.instanceMethod yX0_windOfHour, Cond.selects RX0 yX0_windOfHour yX0_windOfHour, Cond.code yX0_windOfHour cX0_windOfHour 1 (some .int), Cond.fieldLink RX0 9 "GustMill$State" "winds" "[I", Cond.methodLink RX0 105 yJ9_floorMod_7cf53, Cond.static yJ9_floorMod_7cf53, Cond.initialized RJ9, Cond.code yJ9_floorMod_7cf53 cJ9_floorMod_7cf53 3 (some .int), Cond.methodLink RX0 77 yX0_finishSacks, Cond.instanceMethod yX0_finishSacks, Cond.selects RX0 yX0_finishSacks yX0_finishSacks, Cond.code yX0_finishSacks cX0_finishSacks 3 none, Cond.fieldLink RX0 37 "GustMill$State" "groundHours" "[I"]
def wsX0_run : List Cond := .code yX0_run cX0_run 5 (some .int) :: ((wsX0_run_r1 ++ (wsX0_run_r2 ++ wsX0_run_r3)) ++ wsX00)
def wsX0_hoursLate : List Cond := .code yX0_hoursLate cX0_hoursLate 3 (some .int) :: ([.fieldLink RX0 47 "GustMill$State" "sackCount" "I", .fieldLink RX0 37 "GustMill$State" "groundHours" "[I", .fieldLink RX0 31 "GustMill$State" "untils" "[I", .methodLink RX0 112 Lib.Math.max.name, .static Lib.Math.max.name, .initialized "java/lang/Math", .code Lib.Math.max.name Lib.Math.max.code 2 (some .int), .methodLink RX0 101 yX0_isGround, .instanceMethod yX0_isGround, .selects RX0 yX0_isGround yX0_isGround, .initialized RX0, .code yX0_isGround cX0_isGround 2 (some .boolean), .fieldLink RX0 28 "GustMill$State" "lefts" "[I"] ++ wsX00)
def wsX1_init_r1 : List Cond := [Cond.methodLink RX1 1 objectInit, Cond.instanceMethod objectInit, Cond.code objectInit ⟨#[0xb1]⟩ 1 none, Cond.classLink RX1 7 RX0, Cond.instantiable RX0 16, Cond.initialized RX0, Cond.fieldLink RX1 10 "GustMill" "now" "LGustMill$State;", Cond.fieldLink RX1 16 "GustMill" "trial" "LGustMill$State;", Cond.methodLink RX1 9 yX0_init, Cond.instanceMethod yX0_init, Cond.code yX0_init cX0_init 2 none, Cond.methodLink RX0 3 objectInit, Cond.arrayClass .int, Cond.fieldLink RX0 9 "GustMill$State" "winds" "[I", Cond.fieldLink RX0 15 "GustMill$State" "sizes" "[I", Cond.fieldLink RX0 18 "GustMill$State" "sacksUpon" "[I", Cond.arrayClass .boolean, Cond.fieldLink RX0 21 "GustMill$State" "isFresh" "[Z", Cond.fieldLink RX0 25 "GustMill$State" "bakers" "[I", Cond.fieldLink RX0 28 "GustMill$State" "lefts" "[I", Cond.fieldLink RX0 31 "GustMill$State" "untils" "[I", Cond.fieldLink RX0 34 "GustMill$State" "stonesUnder" "[I", Cond.fieldLink RX0 37 "GustMill$State" "groundHours" "[I", Cond.fieldLink RX0 40 "GustMill$State" "hour" "I"]
def wsX1_init_r2 : List Cond := [Cond.fieldLink RX0 44 "GustMill$State" "stoneCount" "I", Cond.fieldLink RX0 47 "GustMill$State" "sackCount" "I", Cond.fieldLink RX0 50 "GustMill$State" "groundCount" "I", Cond.fieldLink RX0 53 "GustMill$State" "changeCount" "I", Cond.fieldLink RX0 56 "GustMill$State" "rule" "I", Cond.fieldLink RX0 59 "GustMill$State" "isTakingOff" "Z"]
def wsX1_init : List Cond := .code yX1_init cX1_init 1 none :: ((wsX1_init_r1 ++ wsX1_init_r2) ++ wsX00 ++ wsX10)
def wsX1_addStone : List Cond := .code yX1_addStone cX1_addStone 2 (some .int) :: ([.classLink RX1 19 "java/lang/IllegalArgumentException", .initialized "java/lang/IllegalArgumentException", .classLink RX1 30 "java/lang/IllegalStateException", .initialized "java/lang/IllegalStateException", .fieldLink RX1 10 "GustMill" "now" "LGustMill$State;", .methodLink RX1 35 yX0_placeStone, .instanceMethod yX0_placeStone, .selects RX0 yX0_placeStone yX0_placeStone, .initialized RX0, .code yX0_placeStone cX0_placeStone 3 (some .int), .fieldLink RX0 44 "GustMill$State" "stoneCount" "I", .fieldLink RX0 15 "GustMill$State" "sizes" "[I", .fieldLink RX0 18 "GustMill$State" "sacksUpon" "[I"] ++ wsX10 ++ wsX00 ++ (vx_atS RX1 23 "java/lang/IllegalArgumentException" ["java/lang/RuntimeException", "java/lang/Exception"]).filter goodWord ++ (vx_atS RX1 34 "java/lang/IllegalStateException" ["java/lang/RuntimeException", "java/lang/Exception"]).filter goodWord)
def wsX1_setWind : List Cond := .code yX1_setWind cX1_setWind 4 (some .int) :: ([.classLink RX1 39 "java/lang/IndexOutOfBoundsException", .initialized "java/lang/IndexOutOfBoundsException", .classLink RX1 19 "java/lang/IllegalArgumentException", .initialized "java/lang/IllegalArgumentException", .fieldLink RX1 10 "GustMill" "now" "LGustMill$State;"] ++ wsX10 ++ wsX00 ++ (vx_atS RX1 43 "java/lang/IndexOutOfBoundsException" ["java/lang/RuntimeException", "java/lang/Exception"]).filter goodWord ++ (vx_atS RX1 23 "java/lang/IllegalArgumentException" ["java/lang/RuntimeException", "java/lang/Exception"]).filter goodWord)
def wsX1_requireRule : List Cond := .code yX1_requireRule cX1_requireRule 1 none :: ([.classLink RX1 19 "java/lang/IllegalArgumentException", .initialized "java/lang/IllegalArgumentException"] ++ (vx_atS RX1 23 "java/lang/IllegalArgumentException" ["java/lang/RuntimeException", "java/lang/Exception"]).filter goodWord)
def wsX1_setRule : List Cond := .code yX1_setRule cX1_setRule 3 (some .int) :: ([.fieldLink RX1 10 "GustMill" "now" "LGustMill$State;", .methodLink RX1 50 yX1_requireRule, .static yX1_requireRule, .initialized RX1, .code yX1_requireRule cX1_requireRule 1 none, .classLink RX1 19 "java/lang/IllegalArgumentException", .initialized "java/lang/IllegalArgumentException"] ++ wsX10 ++ wsX00 ++ (vx_atS RX1 23 "java/lang/IllegalArgumentException" ["java/lang/RuntimeException", "java/lang/Exception"]).filter goodWord)
def wsX1_setTakingOff : List Cond := .code yX1_setTakingOff cX1_setTakingOff 3 (some .boolean) :: ([.fieldLink RX1 10 "GustMill" "now" "LGustMill$State;"] ++ wsX10 ++ wsX00)
def wsX1_requireBaker : List Cond := .code yX1_requireBaker cX1_requireBaker 1 none :: ([.classLink RX1 19 "java/lang/IllegalArgumentException", .initialized "java/lang/IllegalArgumentException"] ++ (vx_atS RX1 23 "java/lang/IllegalArgumentException" ["java/lang/RuntimeException", "java/lang/Exception"]).filter goodWord)
def wsX1_requireGrain : List Cond := .code yX1_requireGrain cX1_requireGrain 1 none :: ([.classLink RX1 19 "java/lang/IllegalArgumentException", .initialized "java/lang/IllegalArgumentException"] ++ (vx_atS RX1 23 "java/lang/IllegalArgumentException" ["java/lang/RuntimeException", "java/lang/Exception"]).filter goodWord)
def wsX1_requireUntil : List Cond := .code yX1_requireUntil cX1_requireUntil 1 none :: ([.classLink RX1 19 "java/lang/IllegalArgumentException", .initialized "java/lang/IllegalArgumentException"] ++ (vx_atS RX1 23 "java/lang/IllegalArgumentException" ["java/lang/RuntimeException", "java/lang/Exception"]).filter goodWord)
def wsX1_bring_r1 : List Cond := [Cond.classLink RX1 30 "java/lang/IllegalStateException", Cond.initialized "java/lang/IllegalStateException", Cond.fieldLink RX1 10 "GustMill" "now" "LGustMill$State;", Cond.methodLink RX1 61 yX1_requireBaker, Cond.static yX1_requireBaker, Cond.initialized RX1, Cond.code yX1_requireBaker cX1_requireBaker 1 none, Cond.classLink RX1 19 "java/lang/IllegalArgumentException", Cond.initialized "java/lang/IllegalArgumentException", Cond.methodLink RX1 64 yX1_requireGrain, Cond.static yX1_requireGrain, Cond.code yX1_requireGrain cX1_requireGrain 1 none, Cond.methodLink RX1 67 yX1_requireUntil, Cond.static yX1_requireUntil, Cond.code yX1_requireUntil cX1_requireUntil 1 none, Cond.methodLink RX1 75 yX0_storeSack, Cond.instanceMethod yX0_storeSack, Cond.selects RX0 yX0_storeSack yX0_storeSack, Cond.initialized RX0, Cond.code yX0_storeSack cX0_storeSack 5 (some .int), Cond.fieldLink RX0 47 "GustMill$State" "sackCount" "I", Cond.fieldLink RX0 25 "GustMill$State" "bakers" "[I", Cond.fieldLink RX0 28 "GustMill$State" "lefts" "[I", Cond.fieldLink RX0 31 "GustMill$State" "untils" "[I"]
def wsX1_bring_r2 : List Cond := [Cond.fieldLink RX0 34 "GustMill$State" "stonesUnder" "[I", Cond.fieldLink RX0 37 "GustMill$State" "groundHours" "[I"]
def wsX1_bring : List Cond := .code yX1_bring cX1_bring 4 (some .int) :: ((wsX1_bring_r1 ++ wsX1_bring_r2) ++ wsX10 ++ wsX00 ++ (vx_atS RX1 34 "java/lang/IllegalStateException" ["java/lang/RuntimeException", "java/lang/Exception"]).filter goodWord ++ (vx_atS RX1 23 "java/lang/IllegalArgumentException" ["java/lang/RuntimeException", "java/lang/Exception"]).filter goodWord)
def wsX1_requireSack : List Cond := .code yX1_requireSack cX1_requireSack 2 none :: ([.classLink RX1 39 "java/lang/IndexOutOfBoundsException", .initialized "java/lang/IndexOutOfBoundsException", .fieldLink RX1 10 "GustMill" "now" "LGustMill$State;"] ++ wsX10 ++ wsX00 ++ (vx_atS RX1 43 "java/lang/IndexOutOfBoundsException" ["java/lang/RuntimeException", "java/lang/Exception"]).filter goodWord)
def wsX1_lift : List Cond := .code yX1_lift cX1_lift 3 (some .int) :: ([.classLink RX1 30 "java/lang/IllegalStateException", .initialized "java/lang/IllegalStateException", .fieldLink RX1 10 "GustMill" "now" "LGustMill$State;", .methodLink RX1 79 yX1_requireSack, .instanceMethod yX1_requireSack, .selects RX1 yX1_requireSack yX1_requireSack, .initialized RX1, .code yX1_requireSack cX1_requireSack 2 none, .classLink RX1 39 "java/lang/IndexOutOfBoundsException", .initialized "java/lang/IndexOutOfBoundsException", .methodLink RX1 87 yX0_clearStone, .instanceMethod yX0_clearStone, .selects RX0 yX0_clearStone yX0_clearStone, .initialized RX0, .code yX0_clearStone cX0_clearStone 3 none, .fieldLink RX0 18 "GustMill$State" "sacksUpon" "[I", .fieldLink RX0 34 "GustMill$State" "stonesUnder" "[I"] ++ wsX10 ++ wsX00 ++ (vx_atS RX1 34 "java/lang/IllegalStateException" ["java/lang/RuntimeException", "java/lang/Exception"]).filter goodWord ++ (vx_atS RX1 43 "java/lang/IndexOutOfBoundsException" ["java/lang/RuntimeException", "java/lang/Exception"]).filter goodWord)
def wsX1_setUntil : List Cond := .code yX1_setUntil cX1_setUntil 4 (some .int) :: ([.fieldLink RX1 10 "GustMill" "now" "LGustMill$State;", .methodLink RX1 79 yX1_requireSack, .instanceMethod yX1_requireSack, .selects RX1 yX1_requireSack yX1_requireSack, .initialized RX1, .code yX1_requireSack cX1_requireSack 2 none, .classLink RX1 39 "java/lang/IndexOutOfBoundsException", .initialized "java/lang/IndexOutOfBoundsException", .methodLink RX1 67 yX1_requireUntil, .static yX1_requireUntil, .code yX1_requireUntil cX1_requireUntil 1 none, .classLink RX1 19 "java/lang/IllegalArgumentException", .initialized "java/lang/IllegalArgumentException"] ++ wsX10 ++ wsX00 ++ (vx_atS RX1 43 "java/lang/IndexOutOfBoundsException" ["java/lang/RuntimeException", "java/lang/Exception"]).filter goodWord ++ (vx_atS RX1 23 "java/lang/IllegalArgumentException" ["java/lang/RuntimeException", "java/lang/Exception"]).filter goodWord)
def wsX1_requireHours : List Cond := .code yX1_requireHours cX1_requireHours 1 none :: ([.classLink RX1 19 "java/lang/IllegalArgumentException", .initialized "java/lang/IllegalArgumentException"] ++ (vx_atS RX1 23 "java/lang/IllegalArgumentException" ["java/lang/RuntimeException", "java/lang/Exception"]).filter goodWord)
def wsX1_pass_r1 : List Cond := [Cond.fieldLink RX1 10 "GustMill" "now" "LGustMill$State;", Cond.methodLink RX1 93 yX1_requireHours, Cond.static yX1_requireHours, Cond.initialized RX1, Cond.code yX1_requireHours cX1_requireHours 1 none, Cond.classLink RX1 19 "java/lang/IllegalArgumentException", Cond.initialized "java/lang/IllegalArgumentException", Cond.methodLink RX1 96 yX0_run, Cond.instanceMethod yX0_run, Cond.selects RX0 yX0_run yX0_run, Cond.initialized RX0, Cond.code yX0_run cX0_run 5 (some .int), Cond.fieldLink RX0 40 "GustMill$State" "hour" "I", Cond.fieldLink RX0 50 "GustMill$State" "groundCount" "I", Cond.fieldLink RX0 47 "GustMill$State" "sackCount" "I", Cond.fieldLink RX0 59 "GustMill$State" "isTakingOff" "Z", Cond.methodLink RX0 67 yX0_takeOffUnwanted, Cond.instanceMethod yX0_takeOffUnwanted, Cond.selects RX0 yX0_takeOffUnwanted yX0_takeOffUnwanted, Cond.code yX0_takeOffUnwanted cX0_takeOffUnwanted 3 none, Cond.fieldLink RX0 44 "GustMill$State" "stoneCount" "I", Cond.fieldLink RX0 18 "GustMill$State" "sacksUpon" "[I", Cond.methodLink RX0 80 yX0_countAhead, Cond.instanceMethod yX0_countAhead]
def wsX1_pass_r2 : List Cond := [Cond.selects RX0 yX0_countAhead yX0_countAhead, Cond.code yX0_countAhead cX0_countAhead 4 (some .int), Cond.methodLink RX0 101 yX0_isGround, Cond.instanceMethod yX0_isGround, Cond.selects RX0 yX0_isGround yX0_isGround, Cond.code yX0_isGround cX0_isGround 2 (some .boolean), Cond.fieldLink RX0 28 "GustMill$State" "lefts" "[I", Cond.methodLink RX0 108 yX0_isAhead, Cond.instanceMethod yX0_isAhead, Cond.selects RX0 yX0_isAhead yX0_isAhead, Cond.code yX0_isAhead cX0_isAhead 4 (some .boolean), Cond.fieldLink RX0 56 "GustMill$State" "rule" "I", Cond.fieldLink RX0 31 "GustMill$State" "untils" "[I", Cond.methodLink RX0 84 yX0_clearStone, Cond.instanceMethod yX0_clearStone, Cond.selects RX0 yX0_clearStone yX0_clearStone, Cond.code yX0_clearStone cX0_clearStone 3 none, Cond.fieldLink RX0 34 "GustMill$State" "stonesUnder" "[I", Cond.methodLink RX0 70 yX0_fillStones, Cond.instanceMethod yX0_fillStones, Cond.selects RX0 yX0_fillStones yX0_fillStones, Cond.code yX0_fillStones cX0_fillStones 3 none, Cond.fieldLink RX0 21 "GustMill$State" "isFresh" "[Z", Cond.fieldLink RX0 53 "GustMill$State" "changeCount" "I"]
def wsX1_pass_r3 : List Cond := [Cond.methodLink RX0 88 yX0_firstByRule, Cond.instanceMethod yX0_firstByRule, Cond.selects RX0 yX0_firstByRule yX0_firstByRule, Cond.code yX0_firstByRule cX0_firstByRule 5 (some .int), Cond.methodLink RX0 73 yX0_grind, Cond.instanceMethod yX0_grind, Cond.selects RX0 yX0_grind yX0_grind, Cond.code yX0_grind cX0_grind 7 (some .int), Cond.fieldLink RX0 15 "GustMill$State" "sizes" "[I", Cond.methodLink RX0 95 Lib.Math.min.name, Cond.static Lib.Math.min.name, Cond.initialized "java/lang/Math", Cond.code Lib.Math.min.name Lib.Math.min.code 2 (some .int), Cond.methodLink RX0 92 yX0_windOfHour, Cond.instanceMethod yX0_windOfHour, Cond.selects RX0 yX0_windOfHour yX0_windOfHour, Cond.code yX0_windOfHour cX0_windOfHour 1 (some .int), Cond.fieldLink RX0 9 "GustMill$State" "winds" "[I", Cond.methodLink RX0 105 yJ9_floorMod_7cf53, Cond.static yJ9_floorMod_7cf53, Cond.initialized RJ9, Cond.code yJ9_floorMod_7cf53 cJ9_floorMod_7cf53 3 (some .int), Cond.methodLink RX0 77 yX0_finishSacks, Cond.instanceMethod yX0_finishSacks]
def wsX1_pass_r4 : List Cond := [Cond.selects RX0 yX0_finishSacks yX0_finishSacks, Cond.code yX0_finishSacks cX0_finishSacks 3 none, Cond.fieldLink RX0 37 "GustMill$State" "groundHours" "[I"]
def wsX1_pass : List Cond := .code yX1_pass cX1_pass 2 (some .int) :: ((wsX1_pass_r1 ++ (wsX1_pass_r2 ++ (wsX1_pass_r3 ++ wsX1_pass_r4))) ++ wsX10 ++ wsX00 ++ (vx_atS RX1 23 "java/lang/IllegalArgumentException" ["java/lang/RuntimeException", "java/lang/Exception"]).filter goodWord)
def wsX1_hour : List Cond := .code yX1_hour cX1_hour 1 (some .int) :: ([.fieldLink RX1 10 "GustMill" "now" "LGustMill$State;"] ++ wsX10 ++ wsX00)
def wsX1_stones : List Cond := .code yX1_stones cX1_stones 1 (some .int) :: ([.fieldLink RX1 10 "GustMill" "now" "LGustMill$State;"] ++ wsX10 ++ wsX00)
def wsX1_sacks : List Cond := .code yX1_sacks cX1_sacks 1 (some .int) :: ([.fieldLink RX1 10 "GustMill" "now" "LGustMill$State;"] ++ wsX10 ++ wsX00)
def wsX1_rule : List Cond := .code yX1_rule cX1_rule 1 (some .int) :: ([.fieldLink RX1 10 "GustMill" "now" "LGustMill$State;"] ++ wsX10 ++ wsX00)
def wsX1_wind : List Cond := .code yX1_wind cX1_wind 1 (some .int) :: ([.fieldLink RX1 10 "GustMill" "now" "LGustMill$State;", .methodLink RX1 102 yX0_windOfHour, .instanceMethod yX0_windOfHour, .selects RX0 yX0_windOfHour yX0_windOfHour, .initialized RX0, .code yX0_windOfHour cX0_windOfHour 1 (some .int), .fieldLink RX0 9 "GustMill$State" "winds" "[I", .fieldLink RX0 40 "GustMill$State" "hour" "I", .methodLink RX0 105 yJ9_floorMod_7cf53, .static yJ9_floorMod_7cf53, .initialized RJ9, .code yJ9_floorMod_7cf53 cJ9_floorMod_7cf53 3 (some .int)] ++ wsX10 ++ wsX00)
def wsX1_sackOn : List Cond := .code yX1_sackOn cX1_sackOn 2 (some .int) :: ([.classLink RX1 39 "java/lang/IndexOutOfBoundsException", .initialized "java/lang/IndexOutOfBoundsException", .fieldLink RX1 10 "GustMill" "now" "LGustMill$State;"] ++ wsX10 ++ wsX00 ++ (vx_atS RX1 43 "java/lang/IndexOutOfBoundsException" ["java/lang/RuntimeException", "java/lang/Exception"]).filter goodWord)
def wsX1_stoneOf : List Cond := .code yX1_stoneOf cX1_stoneOf 2 (some .int) :: ([.fieldLink RX1 10 "GustMill" "now" "LGustMill$State;", .methodLink RX1 79 yX1_requireSack, .instanceMethod yX1_requireSack, .selects RX1 yX1_requireSack yX1_requireSack, .initialized RX1, .code yX1_requireSack cX1_requireSack 2 none, .classLink RX1 39 "java/lang/IndexOutOfBoundsException", .initialized "java/lang/IndexOutOfBoundsException"] ++ wsX10 ++ wsX00 ++ (vx_atS RX1 43 "java/lang/IndexOutOfBoundsException" ["java/lang/RuntimeException", "java/lang/Exception"]).filter goodWord)
def wsX1_leftOf : List Cond := .code yX1_leftOf cX1_leftOf 2 (some .int) :: ([.fieldLink RX1 10 "GustMill" "now" "LGustMill$State;", .methodLink RX1 79 yX1_requireSack, .instanceMethod yX1_requireSack, .selects RX1 yX1_requireSack yX1_requireSack, .initialized RX1, .code yX1_requireSack cX1_requireSack 2 none, .classLink RX1 39 "java/lang/IndexOutOfBoundsException", .initialized "java/lang/IndexOutOfBoundsException"] ++ wsX10 ++ wsX00 ++ (vx_atS RX1 43 "java/lang/IndexOutOfBoundsException" ["java/lang/RuntimeException", "java/lang/Exception"]).filter goodWord)
def wsX1_untilOf : List Cond := .code yX1_untilOf cX1_untilOf 2 (some .int) :: ([.fieldLink RX1 10 "GustMill" "now" "LGustMill$State;", .methodLink RX1 79 yX1_requireSack, .instanceMethod yX1_requireSack, .selects RX1 yX1_requireSack yX1_requireSack, .initialized RX1, .code yX1_requireSack cX1_requireSack 2 none, .classLink RX1 39 "java/lang/IndexOutOfBoundsException", .initialized "java/lang/IndexOutOfBoundsException"] ++ wsX10 ++ wsX00 ++ (vx_atS RX1 43 "java/lang/IndexOutOfBoundsException" ["java/lang/RuntimeException", "java/lang/Exception"]).filter goodWord)
def wsX1_groundAt : List Cond := .code yX1_groundAt cX1_groundAt 2 (some .int) :: ([.fieldLink RX1 10 "GustMill" "now" "LGustMill$State;", .methodLink RX1 79 yX1_requireSack, .instanceMethod yX1_requireSack, .selects RX1 yX1_requireSack yX1_requireSack, .initialized RX1, .code yX1_requireSack cX1_requireSack 2 none, .classLink RX1 39 "java/lang/IndexOutOfBoundsException", .initialized "java/lang/IndexOutOfBoundsException"] ++ wsX10 ++ wsX00 ++ (vx_atS RX1 43 "java/lang/IndexOutOfBoundsException" ["java/lang/RuntimeException", "java/lang/Exception"]).filter goodWord)
def wsX1_ground : List Cond := .code yX1_ground cX1_ground 1 (some .int) :: ([.fieldLink RX1 10 "GustMill" "now" "LGustMill$State;"] ++ wsX10 ++ wsX00)
def wsX1_changes : List Cond := .code yX1_changes cX1_changes 1 (some .int) :: ([.fieldLink RX1 10 "GustMill" "now" "LGustMill$State;"] ++ wsX10 ++ wsX00)
def wsX1_first : List Cond := .code yX1_first cX1_first 1 (some .int) :: ([.fieldLink RX1 10 "GustMill" "now" "LGustMill$State;", .methodLink RX1 123 yX0_firstByRule, .instanceMethod yX0_firstByRule, .selects RX0 yX0_firstByRule yX0_firstByRule, .initialized RX0, .code yX0_firstByRule cX0_firstByRule 5 (some .int), .fieldLink RX0 47 "GustMill$State" "sackCount" "I", .fieldLink RX0 34 "GustMill$State" "stonesUnder" "[I", .methodLink RX0 101 yX0_isGround, .instanceMethod yX0_isGround, .selects RX0 yX0_isGround yX0_isGround, .code yX0_isGround cX0_isGround 2 (some .boolean), .fieldLink RX0 28 "GustMill$State" "lefts" "[I", .methodLink RX0 108 yX0_isAhead, .instanceMethod yX0_isAhead, .selects RX0 yX0_isAhead yX0_isAhead, .code yX0_isAhead cX0_isAhead 4 (some .boolean), .fieldLink RX0 56 "GustMill$State" "rule" "I", .fieldLink RX0 31 "GustMill$State" "untils" "[I"] ++ wsX10 ++ wsX00)
def wsX1_placeOf_r1 : List Cond := [Cond.fieldLink RX1 10 "GustMill" "now" "LGustMill$State;", Cond.methodLink RX1 79 yX1_requireSack, Cond.instanceMethod yX1_requireSack, Cond.selects RX1 yX1_requireSack yX1_requireSack, Cond.initialized RX1, Cond.code yX1_requireSack cX1_requireSack 2 none, Cond.classLink RX1 39 "java/lang/IndexOutOfBoundsException", Cond.initialized "java/lang/IndexOutOfBoundsException", Cond.methodLink RX1 127 yX0_isGround, Cond.instanceMethod yX0_isGround, Cond.selects RX0 yX0_isGround yX0_isGround, Cond.initialized RX0, Cond.code yX0_isGround cX0_isGround 2 (some .boolean), Cond.fieldLink RX0 28 "GustMill$State" "lefts" "[I", Cond.methodLink RX1 131 yX0_countAhead, Cond.instanceMethod yX0_countAhead, Cond.selects RX0 yX0_countAhead yX0_countAhead, Cond.code yX0_countAhead cX0_countAhead 4 (some .int), Cond.fieldLink RX0 47 "GustMill$State" "sackCount" "I", Cond.methodLink RX0 101 yX0_isGround, Cond.methodLink RX0 108 yX0_isAhead, Cond.instanceMethod yX0_isAhead, Cond.selects RX0 yX0_isAhead yX0_isAhead, Cond.code yX0_isAhead cX0_isAhead 4 (some .boolean)]
def wsX1_placeOf_r2 : List Cond := [Cond.fieldLink RX0 56 "GustMill$State" "rule" "I", Cond.fieldLink RX0 31 "GustMill$State" "untils" "[I"]
def wsX1_placeOf : List Cond := .code yX1_placeOf cX1_placeOf 2 (some .int) :: ((wsX1_placeOf_r1 ++ wsX1_placeOf_r2) ++ wsX10 ++ wsX00 ++ (vx_atS RX1 43 "java/lang/IndexOutOfBoundsException" ["java/lang/RuntimeException", "java/lang/Exception"]).filter goodWord)
def wsX1_leftFor : List Cond := .code yX1_leftFor cX1_leftFor 4 (some .int) :: ([.fieldLink RX1 10 "GustMill" "now" "LGustMill$State;", .methodLink RX1 61 yX1_requireBaker, .static yX1_requireBaker, .initialized RX1, .code yX1_requireBaker cX1_requireBaker 1 none, .classLink RX1 19 "java/lang/IllegalArgumentException", .initialized "java/lang/IllegalArgumentException"] ++ wsX10 ++ wsX00 ++ (vx_atS RX1 23 "java/lang/IllegalArgumentException" ["java/lang/RuntimeException", "java/lang/Exception"]).filter goodWord)
def wsX1_late : List Cond := .code yX1_late cX1_late 1 (some .int) :: ([.fieldLink RX1 10 "GustMill" "now" "LGustMill$State;", .methodLink RX1 137 yX0_hoursLate, .instanceMethod yX0_hoursLate, .selects RX0 yX0_hoursLate yX0_hoursLate, .initialized RX0, .code yX0_hoursLate cX0_hoursLate 3 (some .int), .fieldLink RX0 47 "GustMill$State" "sackCount" "I", .fieldLink RX0 37 "GustMill$State" "groundHours" "[I", .fieldLink RX0 31 "GustMill$State" "untils" "[I", .methodLink RX0 112 Lib.Math.max.name, .static Lib.Math.max.name, .initialized "java/lang/Math", .code Lib.Math.max.name Lib.Math.max.code 2 (some .int), .methodLink RX0 101 yX0_isGround, .instanceMethod yX0_isGround, .selects RX0 yX0_isGround yX0_isGround, .code yX0_isGround cX0_isGround 2 (some .boolean), .fieldLink RX0 28 "GustMill$State" "lefts" "[I"] ++ wsX10 ++ wsX00)
def wsX1_lookAhead_r1 : List Cond := [Cond.fieldLink RX1 16 "GustMill" "trial" "LGustMill$State;", Cond.fieldLink RX1 10 "GustMill" "now" "LGustMill$State;", Cond.methodLink RX1 143 yX0_become, Cond.instanceMethod yX0_become, Cond.selects RX0 yX0_become yX0_become, Cond.initialized RX0, Cond.code yX0_become cX0_become 2 none, Cond.fieldLink RX0 9 "GustMill$State" "winds" "[I", Cond.fieldLink RX0 15 "GustMill$State" "sizes" "[I", Cond.fieldLink RX0 18 "GustMill$State" "sacksUpon" "[I", Cond.fieldLink RX0 25 "GustMill$State" "bakers" "[I", Cond.fieldLink RX0 28 "GustMill$State" "lefts" "[I", Cond.fieldLink RX0 31 "GustMill$State" "untils" "[I", Cond.fieldLink RX0 34 "GustMill$State" "stonesUnder" "[I", Cond.fieldLink RX0 37 "GustMill$State" "groundHours" "[I", Cond.fieldLink RX0 40 "GustMill$State" "hour" "I", Cond.fieldLink RX0 44 "GustMill$State" "stoneCount" "I", Cond.fieldLink RX0 47 "GustMill$State" "sackCount" "I", Cond.fieldLink RX0 50 "GustMill$State" "groundCount" "I", Cond.fieldLink RX0 53 "GustMill$State" "changeCount" "I", Cond.fieldLink RX0 56 "GustMill$State" "rule" "I", Cond.fieldLink RX0 59 "GustMill$State" "isTakingOff" "Z", Cond.methodLink RX0 63 yX0_copyRow, Cond.static yX0_copyRow]
def wsX1_lookAhead_r2 : List Cond := [Cond.code yX0_copyRow cX0_copyRow 3 none, Cond.methodLink RX1 96 yX0_run, Cond.instanceMethod yX0_run, Cond.selects RX0 yX0_run yX0_run, Cond.code yX0_run cX0_run 5 (some .int), Cond.methodLink RX0 67 yX0_takeOffUnwanted, Cond.instanceMethod yX0_takeOffUnwanted, Cond.selects RX0 yX0_takeOffUnwanted yX0_takeOffUnwanted, Cond.code yX0_takeOffUnwanted cX0_takeOffUnwanted 3 none, Cond.methodLink RX0 80 yX0_countAhead, Cond.instanceMethod yX0_countAhead, Cond.selects RX0 yX0_countAhead yX0_countAhead, Cond.code yX0_countAhead cX0_countAhead 4 (some .int), Cond.methodLink RX0 101 yX0_isGround, Cond.instanceMethod yX0_isGround, Cond.selects RX0 yX0_isGround yX0_isGround, Cond.code yX0_isGround cX0_isGround 2 (some .boolean), Cond.methodLink RX0 108 yX0_isAhead, Cond.instanceMethod yX0_isAhead, Cond.selects RX0 yX0_isAhead yX0_isAhead, Cond.code yX0_isAhead cX0_isAhead 4 (some .boolean), Cond.methodLink RX0 84 yX0_clearStone, Cond.instanceMethod yX0_clearStone, Cond.selects RX0 yX0_clearStone yX0_clearStone]
def wsX1_lookAhead_r3 : List Cond := [Cond.code yX0_clearStone cX0_clearStone 3 none, Cond.methodLink RX0 70 yX0_fillStones, Cond.instanceMethod yX0_fillStones, Cond.selects RX0 yX0_fillStones yX0_fillStones, Cond.code yX0_fillStones cX0_fillStones 3 none, Cond.fieldLink RX0 21 "GustMill$State" "isFresh" "[Z", Cond.methodLink RX0 88 yX0_firstByRule, Cond.instanceMethod yX0_firstByRule, Cond.selects RX0 yX0_firstByRule yX0_firstByRule, Cond.code yX0_firstByRule cX0_firstByRule 5 (some .int), Cond.methodLink RX0 73 yX0_grind, Cond.instanceMethod yX0_grind, Cond.selects RX0 yX0_grind yX0_grind, Cond.code yX0_grind cX0_grind 7 (some .int), Cond.methodLink RX0 95 Lib.Math.min.name, Cond.static Lib.Math.min.name, Cond.initialized "java/lang/Math", Cond.code Lib.Math.min.name Lib.Math.min.code 2 (some .int), Cond.methodLink RX0 92 yX0_windOfHour, Cond.instanceMethod yX0_windOfHour, Cond.selects RX0 yX0_windOfHour yX0_windOfHour, Cond.code yX0_windOfHour cX0_windOfHour 1 (some .int), Cond.methodLink RX0 105 yJ9_floorMod_7cf53, Cond.static yJ9_floorMod_7cf53]
def wsX1_lookAhead_r4 : List Cond := [Cond.initialized RJ9, Cond.code yJ9_floorMod_7cf53 cJ9_floorMod_7cf53 3 (some .int), Cond.methodLink RX0 77 yX0_finishSacks, Cond.instanceMethod yX0_finishSacks, Cond.selects RX0 yX0_finishSacks yX0_finishSacks, Cond.code yX0_finishSacks cX0_finishSacks 3 none]
def wsX1_lookAhead : List Cond := .code yX1_lookAhead cX1_lookAhead 1 none :: ((wsX1_lookAhead_r1 ++ (wsX1_lookAhead_r2 ++ (wsX1_lookAhead_r3 ++ wsX1_lookAhead_r4))) ++ wsX10 ++ wsX00)
def wsX1_willBeGroundAt_r1 : List Cond := [Cond.fieldLink RX1 16 "GustMill" "trial" "LGustMill$State;", Cond.methodLink RX1 79 yX1_requireSack, Cond.instanceMethod yX1_requireSack, Cond.selects RX1 yX1_requireSack yX1_requireSack, Cond.initialized RX1, Cond.code yX1_requireSack cX1_requireSack 2 none, Cond.classLink RX1 39 "java/lang/IndexOutOfBoundsException", Cond.initialized "java/lang/IndexOutOfBoundsException", Cond.fieldLink RX1 10 "GustMill" "now" "LGustMill$State;", Cond.methodLink RX1 140 yX1_lookAhead, Cond.instanceMethod yX1_lookAhead, Cond.selects RX1 yX1_lookAhead yX1_lookAhead, Cond.code yX1_lookAhead cX1_lookAhead 1 none, Cond.methodLink RX1 143 yX0_become, Cond.instanceMethod yX0_become, Cond.selects RX0 yX0_become yX0_become, Cond.initialized RX0, Cond.code yX0_become cX0_become 2 none, Cond.fieldLink RX0 9 "GustMill$State" "winds" "[I", Cond.fieldLink RX0 15 "GustMill$State" "sizes" "[I", Cond.fieldLink RX0 18 "GustMill$State" "sacksUpon" "[I", Cond.fieldLink RX0 25 "GustMill$State" "bakers" "[I", Cond.fieldLink RX0 28 "GustMill$State" "lefts" "[I", Cond.fieldLink RX0 31 "GustMill$State" "untils" "[I"]
def wsX1_willBeGroundAt_r2 : List Cond := [Cond.fieldLink RX0 34 "GustMill$State" "stonesUnder" "[I", Cond.fieldLink RX0 37 "GustMill$State" "groundHours" "[I", Cond.fieldLink RX0 40 "GustMill$State" "hour" "I", Cond.fieldLink RX0 44 "GustMill$State" "stoneCount" "I", Cond.fieldLink RX0 47 "GustMill$State" "sackCount" "I", Cond.fieldLink RX0 50 "GustMill$State" "groundCount" "I", Cond.fieldLink RX0 53 "GustMill$State" "changeCount" "I", Cond.fieldLink RX0 56 "GustMill$State" "rule" "I", Cond.fieldLink RX0 59 "GustMill$State" "isTakingOff" "Z", Cond.methodLink RX0 63 yX0_copyRow, Cond.static yX0_copyRow, Cond.code yX0_copyRow cX0_copyRow 3 none, Cond.methodLink RX1 96 yX0_run, Cond.instanceMethod yX0_run, Cond.selects RX0 yX0_run yX0_run, Cond.code yX0_run cX0_run 5 (some .int), Cond.methodLink RX0 67 yX0_takeOffUnwanted, Cond.instanceMethod yX0_takeOffUnwanted, Cond.selects RX0 yX0_takeOffUnwanted yX0_takeOffUnwanted, Cond.code yX0_takeOffUnwanted cX0_takeOffUnwanted 3 none, Cond.methodLink RX0 80 yX0_countAhead, Cond.instanceMethod yX0_countAhead, Cond.selects RX0 yX0_countAhead yX0_countAhead, Cond.code yX0_countAhead cX0_countAhead 4 (some .int)]
def wsX1_willBeGroundAt_r3 : List Cond := [Cond.methodLink RX0 101 yX0_isGround, Cond.instanceMethod yX0_isGround, Cond.selects RX0 yX0_isGround yX0_isGround, Cond.code yX0_isGround cX0_isGround 2 (some .boolean), Cond.methodLink RX0 108 yX0_isAhead, Cond.instanceMethod yX0_isAhead, Cond.selects RX0 yX0_isAhead yX0_isAhead, Cond.code yX0_isAhead cX0_isAhead 4 (some .boolean), Cond.methodLink RX0 84 yX0_clearStone, Cond.instanceMethod yX0_clearStone, Cond.selects RX0 yX0_clearStone yX0_clearStone, Cond.code yX0_clearStone cX0_clearStone 3 none, Cond.methodLink RX0 70 yX0_fillStones, Cond.instanceMethod yX0_fillStones, Cond.selects RX0 yX0_fillStones yX0_fillStones, Cond.code yX0_fillStones cX0_fillStones 3 none, Cond.fieldLink RX0 21 "GustMill$State" "isFresh" "[Z", Cond.methodLink RX0 88 yX0_firstByRule, Cond.instanceMethod yX0_firstByRule, Cond.selects RX0 yX0_firstByRule yX0_firstByRule, Cond.code yX0_firstByRule cX0_firstByRule 5 (some .int), Cond.methodLink RX0 73 yX0_grind, Cond.instanceMethod yX0_grind, Cond.selects RX0 yX0_grind yX0_grind]
def wsX1_willBeGroundAt_r4 : List Cond := [Cond.code yX0_grind cX0_grind 7 (some .int), Cond.methodLink RX0 95 Lib.Math.min.name, Cond.static Lib.Math.min.name, Cond.initialized "java/lang/Math", Cond.code Lib.Math.min.name Lib.Math.min.code 2 (some .int), Cond.methodLink RX0 92 yX0_windOfHour, Cond.instanceMethod yX0_windOfHour, Cond.selects RX0 yX0_windOfHour yX0_windOfHour, Cond.code yX0_windOfHour cX0_windOfHour 1 (some .int), Cond.methodLink RX0 105 yJ9_floorMod_7cf53, Cond.static yJ9_floorMod_7cf53, Cond.initialized RJ9, Cond.code yJ9_floorMod_7cf53 cJ9_floorMod_7cf53 3 (some .int), Cond.methodLink RX0 77 yX0_finishSacks, Cond.instanceMethod yX0_finishSacks, Cond.selects RX0 yX0_finishSacks yX0_finishSacks, Cond.code yX0_finishSacks cX0_finishSacks 3 none]
def wsX1_willBeGroundAt : List Cond := .code yX1_willBeGroundAt cX1_willBeGroundAt 2 (some .int) :: ((wsX1_willBeGroundAt_r1 ++ (wsX1_willBeGroundAt_r2 ++ (wsX1_willBeGroundAt_r3 ++ wsX1_willBeGroundAt_r4))) ++ wsX10 ++ wsX00 ++ (vx_atS RX1 43 "java/lang/IndexOutOfBoundsException" ["java/lang/RuntimeException", "java/lang/Exception"]).filter goodWord)
def wsX1_spareOf_r1 : List Cond := [Cond.fieldLink RX1 16 "GustMill" "trial" "LGustMill$State;", Cond.methodLink RX1 79 yX1_requireSack, Cond.instanceMethod yX1_requireSack, Cond.selects RX1 yX1_requireSack yX1_requireSack, Cond.initialized RX1, Cond.code yX1_requireSack cX1_requireSack 2 none, Cond.classLink RX1 39 "java/lang/IndexOutOfBoundsException", Cond.initialized "java/lang/IndexOutOfBoundsException", Cond.fieldLink RX1 10 "GustMill" "now" "LGustMill$State;", Cond.methodLink RX1 140 yX1_lookAhead, Cond.instanceMethod yX1_lookAhead, Cond.selects RX1 yX1_lookAhead yX1_lookAhead, Cond.code yX1_lookAhead cX1_lookAhead 1 none, Cond.methodLink RX1 143 yX0_become, Cond.instanceMethod yX0_become, Cond.selects RX0 yX0_become yX0_become, Cond.initialized RX0, Cond.code yX0_become cX0_become 2 none, Cond.fieldLink RX0 9 "GustMill$State" "winds" "[I", Cond.fieldLink RX0 15 "GustMill$State" "sizes" "[I", Cond.fieldLink RX0 18 "GustMill$State" "sacksUpon" "[I", Cond.fieldLink RX0 25 "GustMill$State" "bakers" "[I", Cond.fieldLink RX0 28 "GustMill$State" "lefts" "[I", Cond.fieldLink RX0 31 "GustMill$State" "untils" "[I"]
def wsX1_spareOf_r2 : List Cond := [Cond.fieldLink RX0 34 "GustMill$State" "stonesUnder" "[I", Cond.fieldLink RX0 37 "GustMill$State" "groundHours" "[I", Cond.fieldLink RX0 40 "GustMill$State" "hour" "I", Cond.fieldLink RX0 44 "GustMill$State" "stoneCount" "I", Cond.fieldLink RX0 47 "GustMill$State" "sackCount" "I", Cond.fieldLink RX0 50 "GustMill$State" "groundCount" "I", Cond.fieldLink RX0 53 "GustMill$State" "changeCount" "I", Cond.fieldLink RX0 56 "GustMill$State" "rule" "I", Cond.fieldLink RX0 59 "GustMill$State" "isTakingOff" "Z", Cond.methodLink RX0 63 yX0_copyRow, Cond.static yX0_copyRow, Cond.code yX0_copyRow cX0_copyRow 3 none, Cond.methodLink RX1 96 yX0_run, Cond.instanceMethod yX0_run, Cond.selects RX0 yX0_run yX0_run, Cond.code yX0_run cX0_run 5 (some .int), Cond.methodLink RX0 67 yX0_takeOffUnwanted, Cond.instanceMethod yX0_takeOffUnwanted, Cond.selects RX0 yX0_takeOffUnwanted yX0_takeOffUnwanted, Cond.code yX0_takeOffUnwanted cX0_takeOffUnwanted 3 none, Cond.methodLink RX0 80 yX0_countAhead, Cond.instanceMethod yX0_countAhead, Cond.selects RX0 yX0_countAhead yX0_countAhead, Cond.code yX0_countAhead cX0_countAhead 4 (some .int)]
def wsX1_spareOf_r3 : List Cond := [Cond.methodLink RX0 101 yX0_isGround, Cond.instanceMethod yX0_isGround, Cond.selects RX0 yX0_isGround yX0_isGround, Cond.code yX0_isGround cX0_isGround 2 (some .boolean), Cond.methodLink RX0 108 yX0_isAhead, Cond.instanceMethod yX0_isAhead, Cond.selects RX0 yX0_isAhead yX0_isAhead, Cond.code yX0_isAhead cX0_isAhead 4 (some .boolean), Cond.methodLink RX0 84 yX0_clearStone, Cond.instanceMethod yX0_clearStone, Cond.selects RX0 yX0_clearStone yX0_clearStone, Cond.code yX0_clearStone cX0_clearStone 3 none, Cond.methodLink RX0 70 yX0_fillStones, Cond.instanceMethod yX0_fillStones, Cond.selects RX0 yX0_fillStones yX0_fillStones, Cond.code yX0_fillStones cX0_fillStones 3 none, Cond.fieldLink RX0 21 "GustMill$State" "isFresh" "[Z", Cond.methodLink RX0 88 yX0_firstByRule, Cond.instanceMethod yX0_firstByRule, Cond.selects RX0 yX0_firstByRule yX0_firstByRule, Cond.code yX0_firstByRule cX0_firstByRule 5 (some .int), Cond.methodLink RX0 73 yX0_grind, Cond.instanceMethod yX0_grind, Cond.selects RX0 yX0_grind yX0_grind]
def wsX1_spareOf_r4 : List Cond := [Cond.code yX0_grind cX0_grind 7 (some .int), Cond.methodLink RX0 95 Lib.Math.min.name, Cond.static Lib.Math.min.name, Cond.initialized "java/lang/Math", Cond.code Lib.Math.min.name Lib.Math.min.code 2 (some .int), Cond.methodLink RX0 92 yX0_windOfHour, Cond.instanceMethod yX0_windOfHour, Cond.selects RX0 yX0_windOfHour yX0_windOfHour, Cond.code yX0_windOfHour cX0_windOfHour 1 (some .int), Cond.methodLink RX0 105 yJ9_floorMod_7cf53, Cond.static yJ9_floorMod_7cf53, Cond.initialized RJ9, Cond.code yJ9_floorMod_7cf53 cJ9_floorMod_7cf53 3 (some .int), Cond.methodLink RX0 77 yX0_finishSacks, Cond.instanceMethod yX0_finishSacks, Cond.selects RX0 yX0_finishSacks yX0_finishSacks, Cond.code yX0_finishSacks cX0_finishSacks 3 none, Cond.methodLink RX1 127 yX0_isGround]
def wsX1_spareOf : List Cond := .code yX1_spareOf cX1_spareOf 2 (some .int) :: ((wsX1_spareOf_r1 ++ (wsX1_spareOf_r2 ++ (wsX1_spareOf_r3 ++ wsX1_spareOf_r4))) ++ wsX10 ++ wsX00 ++ (vx_atS RX1 43 "java/lang/IndexOutOfBoundsException" ["java/lang/RuntimeException", "java/lang/Exception"]).filter goodWord)
def wsX1_lateWith_r1 : List Cond := [Cond.fieldLink RX1 16 "GustMill" "trial" "LGustMill$State;", Cond.fieldLink RX1 10 "GustMill" "now" "LGustMill$State;", Cond.methodLink RX1 50 yX1_requireRule, Cond.static yX1_requireRule, Cond.initialized RX1, Cond.code yX1_requireRule cX1_requireRule 1 none, Cond.classLink RX1 19 "java/lang/IllegalArgumentException", Cond.initialized "java/lang/IllegalArgumentException", Cond.methodLink RX1 143 yX0_become, Cond.instanceMethod yX0_become, Cond.selects RX0 yX0_become yX0_become, Cond.initialized RX0, Cond.code yX0_become cX0_become 2 none, Cond.fieldLink RX0 9 "GustMill$State" "winds" "[I", Cond.fieldLink RX0 15 "GustMill$State" "sizes" "[I", Cond.fieldLink RX0 18 "GustMill$State" "sacksUpon" "[I", Cond.fieldLink RX0 25 "GustMill$State" "bakers" "[I", Cond.fieldLink RX0 28 "GustMill$State" "lefts" "[I", Cond.fieldLink RX0 31 "GustMill$State" "untils" "[I", Cond.fieldLink RX0 34 "GustMill$State" "stonesUnder" "[I", Cond.fieldLink RX0 37 "GustMill$State" "groundHours" "[I", Cond.fieldLink RX0 40 "GustMill$State" "hour" "I", Cond.fieldLink RX0 44 "GustMill$State" "stoneCount" "I", Cond.fieldLink RX0 47 "GustMill$State" "sackCount" "I"]
def wsX1_lateWith_r2 : List Cond := [Cond.fieldLink RX0 50 "GustMill$State" "groundCount" "I", Cond.fieldLink RX0 53 "GustMill$State" "changeCount" "I", Cond.fieldLink RX0 56 "GustMill$State" "rule" "I", Cond.fieldLink RX0 59 "GustMill$State" "isTakingOff" "Z", Cond.methodLink RX0 63 yX0_copyRow, Cond.static yX0_copyRow, Cond.code yX0_copyRow cX0_copyRow 3 none, Cond.methodLink RX1 96 yX0_run, Cond.instanceMethod yX0_run, Cond.selects RX0 yX0_run yX0_run, Cond.code yX0_run cX0_run 5 (some .int), Cond.methodLink RX0 67 yX0_takeOffUnwanted, Cond.instanceMethod yX0_takeOffUnwanted, Cond.selects RX0 yX0_takeOffUnwanted yX0_takeOffUnwanted, Cond.code yX0_takeOffUnwanted cX0_takeOffUnwanted 3 none, Cond.methodLink RX0 80 yX0_countAhead, Cond.instanceMethod yX0_countAhead, Cond.selects RX0 yX0_countAhead yX0_countAhead, Cond.code yX0_countAhead cX0_countAhead 4 (some .int), Cond.methodLink RX0 101 yX0_isGround, Cond.instanceMethod yX0_isGround, Cond.selects RX0 yX0_isGround yX0_isGround, Cond.code yX0_isGround cX0_isGround 2 (some .boolean), Cond.methodLink RX0 108 yX0_isAhead]
def wsX1_lateWith_r3 : List Cond := [Cond.instanceMethod yX0_isAhead, Cond.selects RX0 yX0_isAhead yX0_isAhead, Cond.code yX0_isAhead cX0_isAhead 4 (some .boolean), Cond.methodLink RX0 84 yX0_clearStone, Cond.instanceMethod yX0_clearStone, Cond.selects RX0 yX0_clearStone yX0_clearStone, Cond.code yX0_clearStone cX0_clearStone 3 none, Cond.methodLink RX0 70 yX0_fillStones, Cond.instanceMethod yX0_fillStones, Cond.selects RX0 yX0_fillStones yX0_fillStones, Cond.code yX0_fillStones cX0_fillStones 3 none, Cond.fieldLink RX0 21 "GustMill$State" "isFresh" "[Z", Cond.methodLink RX0 88 yX0_firstByRule, Cond.instanceMethod yX0_firstByRule, Cond.selects RX0 yX0_firstByRule yX0_firstByRule, Cond.code yX0_firstByRule cX0_firstByRule 5 (some .int), Cond.methodLink RX0 73 yX0_grind, Cond.instanceMethod yX0_grind, Cond.selects RX0 yX0_grind yX0_grind, Cond.code yX0_grind cX0_grind 7 (some .int), Cond.methodLink RX0 95 Lib.Math.min.name, Cond.static Lib.Math.min.name, Cond.initialized "java/lang/Math", Cond.code Lib.Math.min.name Lib.Math.min.code 2 (some .int)]
def wsX1_lateWith_r4 : List Cond := [Cond.methodLink RX0 92 yX0_windOfHour, Cond.instanceMethod yX0_windOfHour, Cond.selects RX0 yX0_windOfHour yX0_windOfHour, Cond.code yX0_windOfHour cX0_windOfHour 1 (some .int), Cond.methodLink RX0 105 yJ9_floorMod_7cf53, Cond.static yJ9_floorMod_7cf53, Cond.initialized RJ9, Cond.code yJ9_floorMod_7cf53 cJ9_floorMod_7cf53 3 (some .int), Cond.methodLink RX0 77 yX0_finishSacks, Cond.instanceMethod yX0_finishSacks, Cond.selects RX0 yX0_finishSacks yX0_finishSacks, Cond.code yX0_finishSacks cX0_finishSacks 3 none, Cond.methodLink RX1 137 yX0_hoursLate, Cond.instanceMethod yX0_hoursLate, Cond.selects RX0 yX0_hoursLate yX0_hoursLate, Cond.code yX0_hoursLate cX0_hoursLate 3 (some .int), Cond.methodLink RX0 112 Lib.Math.max.name, Cond.static Lib.Math.max.name, Cond.code Lib.Math.max.name Lib.Math.max.code 2 (some .int)]
def wsX1_lateWith : List Cond := .code yX1_lateWith cX1_lateWith 3 (some .int) :: ((wsX1_lateWith_r1 ++ (wsX1_lateWith_r2 ++ (wsX1_lateWith_r3 ++ wsX1_lateWith_r4))) ++ wsX10 ++ wsX00 ++ (vx_atS RX1 23 "java/lang/IllegalArgumentException" ["java/lang/RuntimeException", "java/lang/Exception"]).filter goodWord)
def wsX1_bestRule_r1 : List Cond := [Cond.fieldLink RX1 10 "GustMill" "now" "LGustMill$State;", Cond.methodLink RX1 147 yX1_lateWith, Cond.instanceMethod yX1_lateWith, Cond.selects RX1 yX1_lateWith yX1_lateWith, Cond.initialized RX1, Cond.code yX1_lateWith cX1_lateWith 3 (some .int), Cond.fieldLink RX1 16 "GustMill" "trial" "LGustMill$State;", Cond.methodLink RX1 50 yX1_requireRule, Cond.static yX1_requireRule, Cond.code yX1_requireRule cX1_requireRule 1 none, Cond.classLink RX1 19 "java/lang/IllegalArgumentException", Cond.initialized "java/lang/IllegalArgumentException", Cond.methodLink RX1 143 yX0_become, Cond.instanceMethod yX0_become, Cond.selects RX0 yX0_become yX0_become, Cond.initialized RX0, Cond.code yX0_become cX0_become 2 none, Cond.fieldLink RX0 9 "GustMill$State" "winds" "[I", Cond.fieldLink RX0 15 "GustMill$State" "sizes" "[I", Cond.fieldLink RX0 18 "GustMill$State" "sacksUpon" "[I", Cond.fieldLink RX0 25 "GustMill$State" "bakers" "[I", Cond.fieldLink RX0 28 "GustMill$State" "lefts" "[I", Cond.fieldLink RX0 31 "GustMill$State" "untils" "[I", Cond.fieldLink RX0 34 "GustMill$State" "stonesUnder" "[I"]
def wsX1_bestRule_r2 : List Cond := [Cond.fieldLink RX0 37 "GustMill$State" "groundHours" "[I", Cond.fieldLink RX0 40 "GustMill$State" "hour" "I", Cond.fieldLink RX0 44 "GustMill$State" "stoneCount" "I", Cond.fieldLink RX0 47 "GustMill$State" "sackCount" "I", Cond.fieldLink RX0 50 "GustMill$State" "groundCount" "I", Cond.fieldLink RX0 53 "GustMill$State" "changeCount" "I", Cond.fieldLink RX0 56 "GustMill$State" "rule" "I", Cond.fieldLink RX0 59 "GustMill$State" "isTakingOff" "Z", Cond.methodLink RX0 63 yX0_copyRow, Cond.static yX0_copyRow, Cond.code yX0_copyRow cX0_copyRow 3 none, Cond.methodLink RX1 96 yX0_run, Cond.instanceMethod yX0_run, Cond.selects RX0 yX0_run yX0_run, Cond.code yX0_run cX0_run 5 (some .int), Cond.methodLink RX0 67 yX0_takeOffUnwanted, Cond.instanceMethod yX0_takeOffUnwanted, Cond.selects RX0 yX0_takeOffUnwanted yX0_takeOffUnwanted, Cond.code yX0_takeOffUnwanted cX0_takeOffUnwanted 3 none, Cond.methodLink RX0 80 yX0_countAhead, Cond.instanceMethod yX0_countAhead, Cond.selects RX0 yX0_countAhead yX0_countAhead, Cond.code yX0_countAhead cX0_countAhead 4 (some .int), Cond.methodLink RX0 101 yX0_isGround]
def wsX1_bestRule_r3 : List Cond := [Cond.instanceMethod yX0_isGround, Cond.selects RX0 yX0_isGround yX0_isGround, Cond.code yX0_isGround cX0_isGround 2 (some .boolean), Cond.methodLink RX0 108 yX0_isAhead, Cond.instanceMethod yX0_isAhead, Cond.selects RX0 yX0_isAhead yX0_isAhead, Cond.code yX0_isAhead cX0_isAhead 4 (some .boolean), Cond.methodLink RX0 84 yX0_clearStone, Cond.instanceMethod yX0_clearStone, Cond.selects RX0 yX0_clearStone yX0_clearStone, Cond.code yX0_clearStone cX0_clearStone 3 none, Cond.methodLink RX0 70 yX0_fillStones, Cond.instanceMethod yX0_fillStones, Cond.selects RX0 yX0_fillStones yX0_fillStones, Cond.code yX0_fillStones cX0_fillStones 3 none, Cond.fieldLink RX0 21 "GustMill$State" "isFresh" "[Z", Cond.methodLink RX0 88 yX0_firstByRule, Cond.instanceMethod yX0_firstByRule, Cond.selects RX0 yX0_firstByRule yX0_firstByRule, Cond.code yX0_firstByRule cX0_firstByRule 5 (some .int), Cond.methodLink RX0 73 yX0_grind, Cond.instanceMethod yX0_grind, Cond.selects RX0 yX0_grind yX0_grind, Cond.code yX0_grind cX0_grind 7 (some .int)]
def wsX1_bestRule_r4 : List Cond := [Cond.methodLink RX0 95 Lib.Math.min.name, Cond.static Lib.Math.min.name, Cond.initialized "java/lang/Math", Cond.code Lib.Math.min.name Lib.Math.min.code 2 (some .int), Cond.methodLink RX0 92 yX0_windOfHour, Cond.instanceMethod yX0_windOfHour, Cond.selects RX0 yX0_windOfHour yX0_windOfHour, Cond.code yX0_windOfHour cX0_windOfHour 1 (some .int), Cond.methodLink RX0 105 yJ9_floorMod_7cf53, Cond.static yJ9_floorMod_7cf53, Cond.initialized RJ9, Cond.code yJ9_floorMod_7cf53 cJ9_floorMod_7cf53 3 (some .int), Cond.methodLink RX0 77 yX0_finishSacks, Cond.instanceMethod yX0_finishSacks, Cond.selects RX0 yX0_finishSacks yX0_finishSacks, Cond.code yX0_finishSacks cX0_finishSacks 3 none, Cond.methodLink RX1 137 yX0_hoursLate, Cond.instanceMethod yX0_hoursLate, Cond.selects RX0 yX0_hoursLate yX0_hoursLate, Cond.code yX0_hoursLate cX0_hoursLate 3 (some .int), Cond.methodLink RX0 112 Lib.Math.max.name, Cond.static Lib.Math.max.name, Cond.code Lib.Math.max.name Lib.Math.max.code 2 (some .int)]
def wsX1_bestRule : List Cond := .code yX1_bestRule cX1_bestRule 5 (some .int) :: ((wsX1_bestRule_r1 ++ (wsX1_bestRule_r2 ++ (wsX1_bestRule_r3 ++ wsX1_bestRule_r4))) ++ wsX10 ++ wsX00 ++ (vx_atS RX1 23 "java/lang/IllegalArgumentException" ["java/lang/RuntimeException", "java/lang/Exception"]).filter goodWord)
def wsX1_wouldBeInTime_r1 : List Cond := [Cond.fieldLink RX1 10 "GustMill" "now" "LGustMill$State;", Cond.fieldLink RX1 16 "GustMill" "trial" "LGustMill$State;", Cond.methodLink RX1 64 yX1_requireGrain, Cond.static yX1_requireGrain, Cond.initialized RX1, Cond.code yX1_requireGrain cX1_requireGrain 1 none, Cond.classLink RX1 19 "java/lang/IllegalArgumentException", Cond.initialized "java/lang/IllegalArgumentException", Cond.methodLink RX1 67 yX1_requireUntil, Cond.static yX1_requireUntil, Cond.code yX1_requireUntil cX1_requireUntil 1 none, Cond.methodLink RX1 143 yX0_become, Cond.instanceMethod yX0_become, Cond.selects RX0 yX0_become yX0_become, Cond.initialized RX0, Cond.code yX0_become cX0_become 2 none, Cond.fieldLink RX0 9 "GustMill$State" "winds" "[I", Cond.fieldLink RX0 15 "GustMill$State" "sizes" "[I", Cond.fieldLink RX0 18 "GustMill$State" "sacksUpon" "[I", Cond.fieldLink RX0 25 "GustMill$State" "bakers" "[I", Cond.fieldLink RX0 28 "GustMill$State" "lefts" "[I", Cond.fieldLink RX0 31 "GustMill$State" "untils" "[I", Cond.fieldLink RX0 34 "GustMill$State" "stonesUnder" "[I", Cond.fieldLink RX0 37 "GustMill$State" "groundHours" "[I"]
def wsX1_wouldBeInTime_r2 : List Cond := [Cond.fieldLink RX0 40 "GustMill$State" "hour" "I", Cond.fieldLink RX0 44 "GustMill$State" "stoneCount" "I", Cond.fieldLink RX0 47 "GustMill$State" "sackCount" "I", Cond.fieldLink RX0 50 "GustMill$State" "groundCount" "I", Cond.fieldLink RX0 53 "GustMill$State" "changeCount" "I", Cond.fieldLink RX0 56 "GustMill$State" "rule" "I", Cond.fieldLink RX0 59 "GustMill$State" "isTakingOff" "Z", Cond.methodLink RX0 63 yX0_copyRow, Cond.static yX0_copyRow, Cond.code yX0_copyRow cX0_copyRow 3 none, Cond.methodLink RX1 75 yX0_storeSack, Cond.instanceMethod yX0_storeSack, Cond.selects RX0 yX0_storeSack yX0_storeSack, Cond.code yX0_storeSack cX0_storeSack 5 (some .int), Cond.methodLink RX1 96 yX0_run, Cond.instanceMethod yX0_run, Cond.selects RX0 yX0_run yX0_run, Cond.code yX0_run cX0_run 5 (some .int), Cond.methodLink RX0 67 yX0_takeOffUnwanted, Cond.instanceMethod yX0_takeOffUnwanted, Cond.selects RX0 yX0_takeOffUnwanted yX0_takeOffUnwanted, Cond.code yX0_takeOffUnwanted cX0_takeOffUnwanted 3 none, Cond.methodLink RX0 80 yX0_countAhead, Cond.instanceMethod yX0_countAhead]
def wsX1_wouldBeInTime_r3 : List Cond := [Cond.selects RX0 yX0_countAhead yX0_countAhead, Cond.code yX0_countAhead cX0_countAhead 4 (some .int), Cond.methodLink RX0 101 yX0_isGround, Cond.instanceMethod yX0_isGround, Cond.selects RX0 yX0_isGround yX0_isGround, Cond.code yX0_isGround cX0_isGround 2 (some .boolean), Cond.methodLink RX0 108 yX0_isAhead, Cond.instanceMethod yX0_isAhead, Cond.selects RX0 yX0_isAhead yX0_isAhead, Cond.code yX0_isAhead cX0_isAhead 4 (some .boolean), Cond.methodLink RX0 84 yX0_clearStone, Cond.instanceMethod yX0_clearStone, Cond.selects RX0 yX0_clearStone yX0_clearStone, Cond.code yX0_clearStone cX0_clearStone 3 none, Cond.methodLink RX0 70 yX0_fillStones, Cond.instanceMethod yX0_fillStones, Cond.selects RX0 yX0_fillStones yX0_fillStones, Cond.code yX0_fillStones cX0_fillStones 3 none, Cond.fieldLink RX0 21 "GustMill$State" "isFresh" "[Z", Cond.methodLink RX0 88 yX0_firstByRule, Cond.instanceMethod yX0_firstByRule, Cond.selects RX0 yX0_firstByRule yX0_firstByRule, Cond.code yX0_firstByRule cX0_firstByRule 5 (some .int), Cond.methodLink RX0 73 yX0_grind]
def wsX1_wouldBeInTime_r4 : List Cond := [Cond.instanceMethod yX0_grind, Cond.selects RX0 yX0_grind yX0_grind, Cond.code yX0_grind cX0_grind 7 (some .int), Cond.methodLink RX0 95 Lib.Math.min.name, Cond.static Lib.Math.min.name, Cond.initialized "java/lang/Math", Cond.code Lib.Math.min.name Lib.Math.min.code 2 (some .int), Cond.methodLink RX0 92 yX0_windOfHour, Cond.instanceMethod yX0_windOfHour, Cond.selects RX0 yX0_windOfHour yX0_windOfHour, Cond.code yX0_windOfHour cX0_windOfHour 1 (some .int), Cond.methodLink RX0 105 yJ9_floorMod_7cf53, Cond.static yJ9_floorMod_7cf53, Cond.initialized RJ9, Cond.code yJ9_floorMod_7cf53 cJ9_floorMod_7cf53 3 (some .int), Cond.methodLink RX0 77 yX0_finishSacks, Cond.instanceMethod yX0_finishSacks, Cond.selects RX0 yX0_finishSacks yX0_finishSacks, Cond.code yX0_finishSacks cX0_finishSacks 3 none, Cond.methodLink RX1 127 yX0_isGround]
def wsX1_wouldBeInTime : List Cond := .code yX1_wouldBeInTime cX1_wouldBeInTime 4 (some .boolean) :: ((wsX1_wouldBeInTime_r1 ++ (wsX1_wouldBeInTime_r2 ++ (wsX1_wouldBeInTime_r3 ++ wsX1_wouldBeInTime_r4))) ++ wsX10 ++ wsX00 ++ (vx_atS RX1 23 "java/lang/IllegalArgumentException" ["java/lang/RuntimeException", "java/lang/Exception"]).filter goodWord)
def wsX1_groundIn_r1 : List Cond := [Cond.fieldLink RX1 16 "GustMill" "trial" "LGustMill$State;", Cond.fieldLink RX1 10 "GustMill" "now" "LGustMill$State;", Cond.methodLink RX1 93 yX1_requireHours, Cond.static yX1_requireHours, Cond.initialized RX1, Cond.code yX1_requireHours cX1_requireHours 1 none, Cond.classLink RX1 19 "java/lang/IllegalArgumentException", Cond.initialized "java/lang/IllegalArgumentException", Cond.methodLink RX1 143 yX0_become, Cond.instanceMethod yX0_become, Cond.selects RX0 yX0_become yX0_become, Cond.initialized RX0, Cond.code yX0_become cX0_become 2 none, Cond.fieldLink RX0 9 "GustMill$State" "winds" "[I", Cond.fieldLink RX0 15 "GustMill$State" "sizes" "[I", Cond.fieldLink RX0 18 "GustMill$State" "sacksUpon" "[I", Cond.fieldLink RX0 25 "GustMill$State" "bakers" "[I", Cond.fieldLink RX0 28 "GustMill$State" "lefts" "[I", Cond.fieldLink RX0 31 "GustMill$State" "untils" "[I", Cond.fieldLink RX0 34 "GustMill$State" "stonesUnder" "[I", Cond.fieldLink RX0 37 "GustMill$State" "groundHours" "[I", Cond.fieldLink RX0 40 "GustMill$State" "hour" "I", Cond.fieldLink RX0 44 "GustMill$State" "stoneCount" "I", Cond.fieldLink RX0 47 "GustMill$State" "sackCount" "I"]
def wsX1_groundIn_r2 : List Cond := [Cond.fieldLink RX0 50 "GustMill$State" "groundCount" "I", Cond.fieldLink RX0 53 "GustMill$State" "changeCount" "I", Cond.fieldLink RX0 56 "GustMill$State" "rule" "I", Cond.fieldLink RX0 59 "GustMill$State" "isTakingOff" "Z", Cond.methodLink RX0 63 yX0_copyRow, Cond.static yX0_copyRow, Cond.code yX0_copyRow cX0_copyRow 3 none, Cond.methodLink RX1 96 yX0_run, Cond.instanceMethod yX0_run, Cond.selects RX0 yX0_run yX0_run, Cond.code yX0_run cX0_run 5 (some .int), Cond.methodLink RX0 67 yX0_takeOffUnwanted, Cond.instanceMethod yX0_takeOffUnwanted, Cond.selects RX0 yX0_takeOffUnwanted yX0_takeOffUnwanted, Cond.code yX0_takeOffUnwanted cX0_takeOffUnwanted 3 none, Cond.methodLink RX0 80 yX0_countAhead, Cond.instanceMethod yX0_countAhead, Cond.selects RX0 yX0_countAhead yX0_countAhead, Cond.code yX0_countAhead cX0_countAhead 4 (some .int), Cond.methodLink RX0 101 yX0_isGround, Cond.instanceMethod yX0_isGround, Cond.selects RX0 yX0_isGround yX0_isGround, Cond.code yX0_isGround cX0_isGround 2 (some .boolean), Cond.methodLink RX0 108 yX0_isAhead]
def wsX1_groundIn_r3 : List Cond := [Cond.instanceMethod yX0_isAhead, Cond.selects RX0 yX0_isAhead yX0_isAhead, Cond.code yX0_isAhead cX0_isAhead 4 (some .boolean), Cond.methodLink RX0 84 yX0_clearStone, Cond.instanceMethod yX0_clearStone, Cond.selects RX0 yX0_clearStone yX0_clearStone, Cond.code yX0_clearStone cX0_clearStone 3 none, Cond.methodLink RX0 70 yX0_fillStones, Cond.instanceMethod yX0_fillStones, Cond.selects RX0 yX0_fillStones yX0_fillStones, Cond.code yX0_fillStones cX0_fillStones 3 none, Cond.fieldLink RX0 21 "GustMill$State" "isFresh" "[Z", Cond.methodLink RX0 88 yX0_firstByRule, Cond.instanceMethod yX0_firstByRule, Cond.selects RX0 yX0_firstByRule yX0_firstByRule, Cond.code yX0_firstByRule cX0_firstByRule 5 (some .int), Cond.methodLink RX0 73 yX0_grind, Cond.instanceMethod yX0_grind, Cond.selects RX0 yX0_grind yX0_grind, Cond.code yX0_grind cX0_grind 7 (some .int), Cond.methodLink RX0 95 Lib.Math.min.name, Cond.static Lib.Math.min.name, Cond.initialized "java/lang/Math", Cond.code Lib.Math.min.name Lib.Math.min.code 2 (some .int)]
def wsX1_groundIn_r4 : List Cond := [Cond.methodLink RX0 92 yX0_windOfHour, Cond.instanceMethod yX0_windOfHour, Cond.selects RX0 yX0_windOfHour yX0_windOfHour, Cond.code yX0_windOfHour cX0_windOfHour 1 (some .int), Cond.methodLink RX0 105 yJ9_floorMod_7cf53, Cond.static yJ9_floorMod_7cf53, Cond.initialized RJ9, Cond.code yJ9_floorMod_7cf53 cJ9_floorMod_7cf53 3 (some .int), Cond.methodLink RX0 77 yX0_finishSacks, Cond.instanceMethod yX0_finishSacks, Cond.selects RX0 yX0_finishSacks yX0_finishSacks, Cond.code yX0_finishSacks cX0_finishSacks 3 none]
def wsX1_groundIn : List Cond := .code yX1_groundIn cX1_groundIn 2 (some .int) :: ((wsX1_groundIn_r1 ++ (wsX1_groundIn_r2 ++ (wsX1_groundIn_r3 ++ wsX1_groundIn_r4))) ++ wsX10 ++ wsX00 ++ (vx_atS RX1 23 "java/lang/IllegalArgumentException" ["java/lang/RuntimeException", "java/lang/Exception"]).filter goodWord)
def wsX1_meanLeft : List Cond := .code yX1_meanLeft cX1_meanLeft 4 (some .double) :: ([.fieldLink RX1 10 "GustMill" "now" "LGustMill$State;"] ++ wsX10 ++ wsX00)
def wsX1_mix : List Cond := .code yX1_mix cX1_mix 3 (some .long) :: ([.constantLong RX1 213 (31)])
def wsX1_mixSacks_r1 : List Cond := [Cond.fieldLink RX1 10 "GustMill" "now" "LGustMill$State;", Cond.fieldLink RX1 16 "GustMill" "trial" "LGustMill$State;", Cond.methodLink RX1 140 yX1_lookAhead, Cond.instanceMethod yX1_lookAhead, Cond.selects RX1 yX1_lookAhead yX1_lookAhead, Cond.initialized RX1, Cond.code yX1_lookAhead cX1_lookAhead 1 none, Cond.methodLink RX1 143 yX0_become, Cond.instanceMethod yX0_become, Cond.selects RX0 yX0_become yX0_become, Cond.initialized RX0, Cond.code yX0_become cX0_become 2 none, Cond.fieldLink RX0 9 "GustMill$State" "winds" "[I", Cond.fieldLink RX0 15 "GustMill$State" "sizes" "[I", Cond.fieldLink RX0 18 "GustMill$State" "sacksUpon" "[I", Cond.fieldLink RX0 25 "GustMill$State" "bakers" "[I", Cond.fieldLink RX0 28 "GustMill$State" "lefts" "[I", Cond.fieldLink RX0 31 "GustMill$State" "untils" "[I", Cond.fieldLink RX0 34 "GustMill$State" "stonesUnder" "[I", Cond.fieldLink RX0 37 "GustMill$State" "groundHours" "[I", Cond.fieldLink RX0 40 "GustMill$State" "hour" "I", Cond.fieldLink RX0 44 "GustMill$State" "stoneCount" "I", Cond.fieldLink RX0 47 "GustMill$State" "sackCount" "I", Cond.fieldLink RX0 50 "GustMill$State" "groundCount" "I"]
def wsX1_mixSacks_r2 : List Cond := [Cond.fieldLink RX0 53 "GustMill$State" "changeCount" "I", Cond.fieldLink RX0 56 "GustMill$State" "rule" "I", Cond.fieldLink RX0 59 "GustMill$State" "isTakingOff" "Z", Cond.methodLink RX0 63 yX0_copyRow, Cond.static yX0_copyRow, Cond.code yX0_copyRow cX0_copyRow 3 none, Cond.methodLink RX1 96 yX0_run, Cond.instanceMethod yX0_run, Cond.selects RX0 yX0_run yX0_run, Cond.code yX0_run cX0_run 5 (some .int), Cond.methodLink RX0 67 yX0_takeOffUnwanted, Cond.instanceMethod yX0_takeOffUnwanted, Cond.selects RX0 yX0_takeOffUnwanted yX0_takeOffUnwanted, Cond.code yX0_takeOffUnwanted cX0_takeOffUnwanted 3 none, Cond.methodLink RX0 80 yX0_countAhead, Cond.instanceMethod yX0_countAhead, Cond.selects RX0 yX0_countAhead yX0_countAhead, Cond.code yX0_countAhead cX0_countAhead 4 (some .int), Cond.methodLink RX0 101 yX0_isGround, Cond.instanceMethod yX0_isGround, Cond.selects RX0 yX0_isGround yX0_isGround, Cond.code yX0_isGround cX0_isGround 2 (some .boolean), Cond.methodLink RX0 108 yX0_isAhead, Cond.instanceMethod yX0_isAhead]
def wsX1_mixSacks_r3 : List Cond := [Cond.selects RX0 yX0_isAhead yX0_isAhead, Cond.code yX0_isAhead cX0_isAhead 4 (some .boolean), Cond.methodLink RX0 84 yX0_clearStone, Cond.instanceMethod yX0_clearStone, Cond.selects RX0 yX0_clearStone yX0_clearStone, Cond.code yX0_clearStone cX0_clearStone 3 none, Cond.methodLink RX0 70 yX0_fillStones, Cond.instanceMethod yX0_fillStones, Cond.selects RX0 yX0_fillStones yX0_fillStones, Cond.code yX0_fillStones cX0_fillStones 3 none, Cond.fieldLink RX0 21 "GustMill$State" "isFresh" "[Z", Cond.methodLink RX0 88 yX0_firstByRule, Cond.instanceMethod yX0_firstByRule, Cond.selects RX0 yX0_firstByRule yX0_firstByRule, Cond.code yX0_firstByRule cX0_firstByRule 5 (some .int), Cond.methodLink RX0 73 yX0_grind, Cond.instanceMethod yX0_grind, Cond.selects RX0 yX0_grind yX0_grind, Cond.code yX0_grind cX0_grind 7 (some .int), Cond.methodLink RX0 95 Lib.Math.min.name, Cond.static Lib.Math.min.name, Cond.initialized "java/lang/Math", Cond.code Lib.Math.min.name Lib.Math.min.code 2 (some .int), Cond.methodLink RX0 92 yX0_windOfHour]
def wsX1_mixSacks_r4 : List Cond := [Cond.instanceMethod yX0_windOfHour, Cond.selects RX0 yX0_windOfHour yX0_windOfHour, Cond.code yX0_windOfHour cX0_windOfHour 1 (some .int), Cond.methodLink RX0 105 yJ9_floorMod_7cf53, Cond.static yJ9_floorMod_7cf53, Cond.initialized RJ9, Cond.code yJ9_floorMod_7cf53 cJ9_floorMod_7cf53 3 (some .int), Cond.methodLink RX0 77 yX0_finishSacks, Cond.instanceMethod yX0_finishSacks, Cond.selects RX0 yX0_finishSacks yX0_finishSacks, Cond.code yX0_finishSacks cX0_finishSacks 3 none, Cond.methodLink RX1 198 yX1_stoneOf, Cond.instanceMethod yX1_stoneOf, Cond.selects RX1 yX1_stoneOf yX1_stoneOf, Cond.code yX1_stoneOf cX1_stoneOf 2 (some .int), Cond.methodLink RX1 79 yX1_requireSack, Cond.instanceMethod yX1_requireSack, Cond.selects RX1 yX1_requireSack yX1_requireSack, Cond.code yX1_requireSack cX1_requireSack 2 none, Cond.classLink RX1 39 "java/lang/IndexOutOfBoundsException", Cond.initialized "java/lang/IndexOutOfBoundsException", Cond.methodLink RX1 155 yX1_mix, Cond.static yX1_mix, Cond.code yX1_mix cX1_mix 3 (some .long)]
def wsX1_mixSacks_r5 : List Cond := [Cond.constantLong RX1 213 (31), Cond.methodLink RX1 201 yX1_leftOf, Cond.instanceMethod yX1_leftOf, Cond.selects RX1 yX1_leftOf yX1_leftOf, Cond.code yX1_leftOf cX1_leftOf 2 (some .int), Cond.methodLink RX1 204 yX1_untilOf, Cond.instanceMethod yX1_untilOf, Cond.selects RX1 yX1_untilOf yX1_untilOf, Cond.code yX1_untilOf cX1_untilOf 2 (some .int), Cond.methodLink RX1 207 yX1_groundAt, Cond.instanceMethod yX1_groundAt, Cond.selects RX1 yX1_groundAt yX1_groundAt, Cond.code yX1_groundAt cX1_groundAt 2 (some .int), Cond.methodLink RX1 210 yX1_placeOf, Cond.instanceMethod yX1_placeOf, Cond.selects RX1 yX1_placeOf yX1_placeOf, Cond.code yX1_placeOf cX1_placeOf 2 (some .int), Cond.methodLink RX1 127 yX0_isGround, Cond.methodLink RX1 131 yX0_countAhead]
def wsX1_mixSacks : List Cond := .code yX1_mixSacks cX1_mixSacks 6 (some .long) :: ((wsX1_mixSacks_r1 ++ (wsX1_mixSacks_r2 ++ (wsX1_mixSacks_r3 ++ (wsX1_mixSacks_r4 ++ wsX1_mixSacks_r5)))) ++ wsX10 ++ wsX00 ++ (vx_atS RX1 43 "java/lang/IndexOutOfBoundsException" ["java/lang/RuntimeException", "java/lang/Exception"]).filter goodWord)
def wsX1_digest_r1 : List Cond := [Cond.constantLong RX1 151 (2281), Cond.fieldLink RX1 10 "GustMill" "now" "LGustMill$State;", Cond.methodLink RX1 153 yX1_hour, Cond.instanceMethod yX1_hour, Cond.selects RX1 yX1_hour yX1_hour, Cond.initialized RX1, Cond.code yX1_hour cX1_hour 1 (some .int), Cond.methodLink RX1 155 yX1_mix, Cond.static yX1_mix, Cond.code yX1_mix cX1_mix 3 (some .long), Cond.constantLong RX1 213 (31), Cond.methodLink RX1 159 yX1_stones, Cond.instanceMethod yX1_stones, Cond.selects RX1 yX1_stones yX1_stones, Cond.code yX1_stones cX1_stones 1 (some .int), Cond.methodLink RX1 162 yX1_sacks, Cond.instanceMethod yX1_sacks, Cond.selects RX1 yX1_sacks yX1_sacks, Cond.code yX1_sacks cX1_sacks 1 (some .int), Cond.methodLink RX1 165 yX1_rule, Cond.instanceMethod yX1_rule, Cond.selects RX1 yX1_rule yX1_rule, Cond.code yX1_rule cX1_rule 1 (some .int), Cond.methodLink RX1 167 yX1_wind]
def wsX1_digest_r2 : List Cond := [Cond.instanceMethod yX1_wind, Cond.selects RX1 yX1_wind yX1_wind, Cond.code yX1_wind cX1_wind 1 (some .int), Cond.methodLink RX1 102 yX0_windOfHour, Cond.instanceMethod yX0_windOfHour, Cond.selects RX0 yX0_windOfHour yX0_windOfHour, Cond.initialized RX0, Cond.code yX0_windOfHour cX0_windOfHour 1 (some .int), Cond.fieldLink RX0 9 "GustMill$State" "winds" "[I", Cond.fieldLink RX0 40 "GustMill$State" "hour" "I", Cond.methodLink RX0 105 yJ9_floorMod_7cf53, Cond.static yJ9_floorMod_7cf53, Cond.initialized RJ9, Cond.code yJ9_floorMod_7cf53 cJ9_floorMod_7cf53 3 (some .int), Cond.methodLink RX1 170 yX1_ground, Cond.instanceMethod yX1_ground, Cond.selects RX1 yX1_ground yX1_ground, Cond.code yX1_ground cX1_ground 1 (some .int), Cond.methodLink RX1 173 yX1_changes, Cond.instanceMethod yX1_changes, Cond.selects RX1 yX1_changes yX1_changes, Cond.code yX1_changes cX1_changes 1 (some .int), Cond.methodLink RX1 176 yX1_first, Cond.instanceMethod yX1_first]
def wsX1_digest_r3 : List Cond := [Cond.selects RX1 yX1_first yX1_first, Cond.code yX1_first cX1_first 1 (some .int), Cond.methodLink RX1 123 yX0_firstByRule, Cond.instanceMethod yX0_firstByRule, Cond.selects RX0 yX0_firstByRule yX0_firstByRule, Cond.code yX0_firstByRule cX0_firstByRule 5 (some .int), Cond.fieldLink RX0 47 "GustMill$State" "sackCount" "I", Cond.fieldLink RX0 34 "GustMill$State" "stonesUnder" "[I", Cond.methodLink RX0 101 yX0_isGround, Cond.instanceMethod yX0_isGround, Cond.selects RX0 yX0_isGround yX0_isGround, Cond.code yX0_isGround cX0_isGround 2 (some .boolean), Cond.fieldLink RX0 28 "GustMill$State" "lefts" "[I", Cond.methodLink RX0 108 yX0_isAhead, Cond.instanceMethod yX0_isAhead, Cond.selects RX0 yX0_isAhead yX0_isAhead, Cond.code yX0_isAhead cX0_isAhead 4 (some .boolean), Cond.fieldLink RX0 56 "GustMill$State" "rule" "I", Cond.fieldLink RX0 31 "GustMill$State" "untils" "[I", Cond.methodLink RX1 179 yX1_late, Cond.instanceMethod yX1_late, Cond.selects RX1 yX1_late yX1_late, Cond.code yX1_late cX1_late 1 (some .int), Cond.methodLink RX1 137 yX0_hoursLate]
def wsX1_digest_r4 : List Cond := [Cond.instanceMethod yX0_hoursLate, Cond.selects RX0 yX0_hoursLate yX0_hoursLate, Cond.code yX0_hoursLate cX0_hoursLate 3 (some .int), Cond.fieldLink RX0 37 "GustMill$State" "groundHours" "[I", Cond.methodLink RX0 112 Lib.Math.max.name, Cond.static Lib.Math.max.name, Cond.initialized "java/lang/Math", Cond.code Lib.Math.max.name Lib.Math.max.code 2 (some .int), Cond.methodLink RX1 182 yX1_bestRule, Cond.instanceMethod yX1_bestRule, Cond.selects RX1 yX1_bestRule yX1_bestRule, Cond.code yX1_bestRule cX1_bestRule 5 (some .int), Cond.methodLink RX1 147 yX1_lateWith, Cond.instanceMethod yX1_lateWith, Cond.selects RX1 yX1_lateWith yX1_lateWith, Cond.code yX1_lateWith cX1_lateWith 3 (some .int), Cond.fieldLink RX1 16 "GustMill" "trial" "LGustMill$State;", Cond.methodLink RX1 50 yX1_requireRule, Cond.static yX1_requireRule, Cond.code yX1_requireRule cX1_requireRule 1 none, Cond.classLink RX1 19 "java/lang/IllegalArgumentException", Cond.initialized "java/lang/IllegalArgumentException", Cond.methodLink RX1 143 yX0_become, Cond.instanceMethod yX0_become]
def wsX1_digest_r5 : List Cond := [Cond.selects RX0 yX0_become yX0_become, Cond.code yX0_become cX0_become 2 none, Cond.fieldLink RX0 15 "GustMill$State" "sizes" "[I", Cond.fieldLink RX0 18 "GustMill$State" "sacksUpon" "[I", Cond.fieldLink RX0 25 "GustMill$State" "bakers" "[I", Cond.fieldLink RX0 44 "GustMill$State" "stoneCount" "I", Cond.fieldLink RX0 50 "GustMill$State" "groundCount" "I", Cond.fieldLink RX0 53 "GustMill$State" "changeCount" "I", Cond.fieldLink RX0 59 "GustMill$State" "isTakingOff" "Z", Cond.methodLink RX0 63 yX0_copyRow, Cond.static yX0_copyRow, Cond.code yX0_copyRow cX0_copyRow 3 none, Cond.methodLink RX1 96 yX0_run, Cond.instanceMethod yX0_run, Cond.selects RX0 yX0_run yX0_run, Cond.code yX0_run cX0_run 5 (some .int), Cond.methodLink RX0 67 yX0_takeOffUnwanted, Cond.instanceMethod yX0_takeOffUnwanted, Cond.selects RX0 yX0_takeOffUnwanted yX0_takeOffUnwanted, Cond.code yX0_takeOffUnwanted cX0_takeOffUnwanted 3 none, Cond.methodLink RX0 80 yX0_countAhead, Cond.instanceMethod yX0_countAhead, Cond.selects RX0 yX0_countAhead yX0_countAhead, Cond.code yX0_countAhead cX0_countAhead 4 (some .int)]
def wsX1_digest_r6 : List Cond := [Cond.methodLink RX0 84 yX0_clearStone, Cond.instanceMethod yX0_clearStone, Cond.selects RX0 yX0_clearStone yX0_clearStone, Cond.code yX0_clearStone cX0_clearStone 3 none, Cond.methodLink RX0 70 yX0_fillStones, Cond.instanceMethod yX0_fillStones, Cond.selects RX0 yX0_fillStones yX0_fillStones, Cond.code yX0_fillStones cX0_fillStones 3 none, Cond.fieldLink RX0 21 "GustMill$State" "isFresh" "[Z", Cond.methodLink RX0 88 yX0_firstByRule, Cond.methodLink RX0 73 yX0_grind, Cond.instanceMethod yX0_grind, Cond.selects RX0 yX0_grind yX0_grind, Cond.code yX0_grind cX0_grind 7 (some .int), Cond.methodLink RX0 95 Lib.Math.min.name, Cond.static Lib.Math.min.name, Cond.code Lib.Math.min.name Lib.Math.min.code 2 (some .int), Cond.methodLink RX0 92 yX0_windOfHour, Cond.methodLink RX0 77 yX0_finishSacks, Cond.instanceMethod yX0_finishSacks, Cond.selects RX0 yX0_finishSacks yX0_finishSacks, Cond.code yX0_finishSacks cX0_finishSacks 3 none, Cond.methodLink RX1 185 yX1_groundIn, Cond.instanceMethod yX1_groundIn]
def wsX1_digest_r7 : List Cond := [Cond.selects RX1 yX1_groundIn yX1_groundIn, Cond.code yX1_groundIn cX1_groundIn 2 (some .int), Cond.methodLink RX1 93 yX1_requireHours, Cond.static yX1_requireHours, Cond.code yX1_requireHours cX1_requireHours 1 none, Cond.methodLink RX1 188 yX1_sackOn, Cond.instanceMethod yX1_sackOn, Cond.selects RX1 yX1_sackOn yX1_sackOn, Cond.code yX1_sackOn cX1_sackOn 2 (some .int), Cond.classLink RX1 39 "java/lang/IndexOutOfBoundsException", Cond.initialized "java/lang/IndexOutOfBoundsException", Cond.methodLink RX1 191 yX1_mixSacks, Cond.instanceMethod yX1_mixSacks, Cond.selects RX1 yX1_mixSacks yX1_mixSacks, Cond.code yX1_mixSacks cX1_mixSacks 6 (some .long), Cond.methodLink RX1 140 yX1_lookAhead, Cond.instanceMethod yX1_lookAhead, Cond.selects RX1 yX1_lookAhead yX1_lookAhead, Cond.code yX1_lookAhead cX1_lookAhead 1 none, Cond.methodLink RX1 198 yX1_stoneOf, Cond.instanceMethod yX1_stoneOf, Cond.selects RX1 yX1_stoneOf yX1_stoneOf, Cond.code yX1_stoneOf cX1_stoneOf 2 (some .int), Cond.methodLink RX1 79 yX1_requireSack]
def wsX1_digest_r8 : List Cond := [Cond.instanceMethod yX1_requireSack, Cond.selects RX1 yX1_requireSack yX1_requireSack, Cond.code yX1_requireSack cX1_requireSack 2 none, Cond.methodLink RX1 201 yX1_leftOf, Cond.instanceMethod yX1_leftOf, Cond.selects RX1 yX1_leftOf yX1_leftOf, Cond.code yX1_leftOf cX1_leftOf 2 (some .int), Cond.methodLink RX1 204 yX1_untilOf, Cond.instanceMethod yX1_untilOf, Cond.selects RX1 yX1_untilOf yX1_untilOf, Cond.code yX1_untilOf cX1_untilOf 2 (some .int), Cond.methodLink RX1 207 yX1_groundAt, Cond.instanceMethod yX1_groundAt, Cond.selects RX1 yX1_groundAt yX1_groundAt, Cond.code yX1_groundAt cX1_groundAt 2 (some .int), Cond.methodLink RX1 210 yX1_placeOf, Cond.instanceMethod yX1_placeOf, Cond.selects RX1 yX1_placeOf yX1_placeOf, Cond.code yX1_placeOf cX1_placeOf 2 (some .int), Cond.methodLink RX1 127 yX0_isGround, Cond.methodLink RX1 131 yX0_countAhead, Cond.methodLink RX1 195 yX1_leftFor, Cond.instanceMethod yX1_leftFor, Cond.selects RX1 yX1_leftFor yX1_leftFor]
def wsX1_digest_r9 : List Cond := [Cond.code yX1_leftFor cX1_leftFor 4 (some .int), Cond.methodLink RX1 61 yX1_requireBaker, Cond.static yX1_requireBaker, Cond.code yX1_requireBaker cX1_requireBaker 1 none]
def wsX1_digest : List Cond := .code yX1_digest cX1_digest 4 (some .long) :: ((wsX1_digest_r1 ++ (wsX1_digest_r2 ++ (wsX1_digest_r3 ++ (wsX1_digest_r4 ++ (wsX1_digest_r5 ++ (wsX1_digest_r6 ++ (wsX1_digest_r7 ++ (wsX1_digest_r8 ++ wsX1_digest_r9)))))))) ++ wsX10 ++ wsX00 ++ (vx_atS RX1 23 "java/lang/IllegalArgumentException" ["java/lang/RuntimeException", "java/lang/Exception"]).filter goodWord ++ (vx_atS RX1 43 "java/lang/IndexOutOfBoundsException" ["java/lang/RuntimeException", "java/lang/Exception"]).filter goodWord)
def wsX2_init : List Cond := .code yX2_init cX2_init 2 none :: ([.methodLink RX2 1 objectInit, .instanceMethod objectInit, .code objectInit ⟨#[0xb1]⟩ 1 none, .arrayClass .int, .fieldLink RX2 9 "GustMillModel" "size" "[I", .fieldLink RX2 13 "GustMillModel" "wind" "[I", .fieldLink RX2 16 "GustMillModel" "baker" "[I", .fieldLink RX2 19 "GustMillModel" "until" "[I", .fieldLink RX2 22 "GustMillModel" "now" "[I", .fieldLink RX2 25 "GustMillModel" "kept" "[I", .fieldLink RX2 28 "GustMillModel" "fresh" "[I"] ++ wsX20)
def wsX2_thrown : List Cond := .code yX2_thrown cX2_thrown 1 (some .int) :: ([.fieldLink RX2 31 "GustMillModel" "thrown" "I"] ++ wsX20)
def wsX2_fail : List Cond := .code yX2_fail cX2_fail 2 (some .int) :: ([.fieldLink RX2 31 "GustMillModel" "thrown" "I"] ++ wsX20)
def wsX2_told : List Cond := .code yX2_told cX2_told 2 (some .int) :: ([.fieldLink RX2 31 "GustMillModel" "thrown" "I"] ++ wsX20)
def wsX2_isIn : List Cond := .code yX2_isIn cX2_isIn 3 (some .boolean) :: ([])
def wsX2_isStone : List Cond := .code yX2_isStone cX2_isStone 2 (some .boolean) :: ([.fieldLink RX2 35 "GustMillModel" "stones" "I", .methodLink RX2 38 yX2_isIn, .static yX2_isIn, .initialized RX2, .code yX2_isIn cX2_isIn 3 (some .boolean)] ++ wsX20)
def wsX2_isSack : List Cond := .code yX2_isSack cX2_isSack 2 (some .boolean) :: ([.fieldLink RX2 42 "GustMillModel" "sacks" "I", .methodLink RX2 38 yX2_isIn, .static yX2_isIn, .initialized RX2, .code yX2_isIn cX2_isIn 3 (some .boolean)] ++ wsX20)
def wsX2_keep : List Cond := .code yX2_keep cX2_keep 1 none :: ([.fieldLink RX2 22 "GustMillModel" "now" "[I", .fieldLink RX2 25 "GustMillModel" "kept" "[I", .methodLink RX2 45 arraycopyName, .native arraycopyName, .static arraycopyName, .initialized "java/lang/System"] ++ wsX20)
def wsX2_bringBack : List Cond := .code yX2_bringBack cX2_bringBack 1 none :: ([.fieldLink RX2 25 "GustMillModel" "kept" "[I", .fieldLink RX2 22 "GustMillModel" "now" "[I", .methodLink RX2 45 arraycopyName, .native arraycopyName, .static arraycopyName, .initialized "java/lang/System"] ++ wsX20)
def wsX2_isDone : List Cond := .code yX2_isDone cX2_isDone 2 (some .boolean) :: ([.fieldLink RX2 22 "GustMillModel" "now" "[I"] ++ wsX20)
def wsX2_turn : List Cond := .code yX2_turn cX2_turn 2 (some .int) :: ([.fieldLink RX2 51 "GustMillModel" "rule" "I", .fieldLink RX2 19 "GustMillModel" "until" "[I", .fieldLink RX2 22 "GustMillModel" "now" "[I"] ++ wsX20)
def wsX2_ahead : List Cond := .code yX2_ahead cX2_ahead 4 (some .int) :: ([.fieldLink RX2 42 "GustMillModel" "sacks" "I", .methodLink RX2 54 yX2_isDone, .instanceMethod yX2_isDone, .selects RX2 yX2_isDone yX2_isDone, .initialized RX2, .code yX2_isDone cX2_isDone 2 (some .boolean), .fieldLink RX2 22 "GustMillModel" "now" "[I", .methodLink RX2 58 yX2_turn, .instanceMethod yX2_turn, .selects RX2 yX2_turn yX2_turn, .code yX2_turn cX2_turn 2 (some .int), .fieldLink RX2 51 "GustMillModel" "rule" "I", .fieldLink RX2 19 "GustMillModel" "until" "[I"] ++ wsX20)
def wsX2_next : List Cond := .code yX2_next cX2_next 4 (some .int) :: ([.fieldLink RX2 42 "GustMillModel" "sacks" "I", .fieldLink RX2 22 "GustMillModel" "now" "[I", .methodLink RX2 54 yX2_isDone, .instanceMethod yX2_isDone, .selects RX2 yX2_isDone yX2_isDone, .initialized RX2, .code yX2_isDone cX2_isDone 2 (some .boolean), .methodLink RX2 58 yX2_turn, .instanceMethod yX2_turn, .selects RX2 yX2_turn yX2_turn, .code yX2_turn cX2_turn 2 (some .int), .fieldLink RX2 51 "GustMillModel" "rule" "I", .fieldLink RX2 19 "GustMillModel" "until" "[I"] ++ wsX20)
def wsX2_on : List Cond := .code yX2_on cX2_on 3 (some .int) :: ([.fieldLink RX2 42 "GustMillModel" "sacks" "I", .fieldLink RX2 22 "GustMillModel" "now" "[I"] ++ wsX20)
def wsX2_hourOn_r1 : List Cond := [Cond.fieldLink RX2 42 "GustMillModel" "sacks" "I", Cond.fieldLink RX2 62 "GustMillModel" "isAllowed" "Z", Cond.fieldLink RX2 22 "GustMillModel" "now" "[I", Cond.fieldLink RX2 35 "GustMillModel" "stones" "I", Cond.fieldLink RX2 28 "GustMillModel" "fresh" "[I", Cond.fieldLink RX2 13 "GustMillModel" "wind" "[I", Cond.fieldLink RX2 9 "GustMillModel" "size" "[I", Cond.methodLink RX2 76 Lib.Math.min.name, Cond.static Lib.Math.min.name, Cond.initialized "java/lang/Math", Cond.code Lib.Math.min.name Lib.Math.min.code 2 (some .int), Cond.methodLink RX2 66 yX2_ahead, Cond.instanceMethod yX2_ahead, Cond.selects RX2 yX2_ahead yX2_ahead, Cond.initialized RX2, Cond.code yX2_ahead cX2_ahead 4 (some .int), Cond.methodLink RX2 54 yX2_isDone, Cond.instanceMethod yX2_isDone, Cond.selects RX2 yX2_isDone yX2_isDone, Cond.code yX2_isDone cX2_isDone 2 (some .boolean), Cond.methodLink RX2 58 yX2_turn, Cond.instanceMethod yX2_turn, Cond.selects RX2 yX2_turn yX2_turn, Cond.code yX2_turn cX2_turn 2 (some .int)]
def wsX2_hourOn_r2 : List Cond := [Cond.fieldLink RX2 51 "GustMillModel" "rule" "I", Cond.fieldLink RX2 19 "GustMillModel" "until" "[I", Cond.methodLink RX2 69 yX2_on, Cond.instanceMethod yX2_on, Cond.selects RX2 yX2_on yX2_on, Cond.code yX2_on cX2_on 3 (some .int), Cond.methodLink RX2 72 yX2_next, Cond.instanceMethod yX2_next, Cond.selects RX2 yX2_next yX2_next, Cond.code yX2_next cX2_next 4 (some .int)]
def wsX2_hourOn : List Cond := .code yX2_hourOn cX2_hourOn 5 none :: ((wsX2_hourOn_r1 ++ wsX2_hourOn_r2) ++ wsX20)
def wsX2_hoursOn_r1 : List Cond := [Cond.methodLink RX2 82 yX2_hourOn, Cond.instanceMethod yX2_hourOn, Cond.selects RX2 yX2_hourOn yX2_hourOn, Cond.initialized RX2, Cond.code yX2_hourOn cX2_hourOn 5 none, Cond.fieldLink RX2 42 "GustMillModel" "sacks" "I", Cond.fieldLink RX2 62 "GustMillModel" "isAllowed" "Z", Cond.fieldLink RX2 22 "GustMillModel" "now" "[I", Cond.fieldLink RX2 35 "GustMillModel" "stones" "I", Cond.fieldLink RX2 28 "GustMillModel" "fresh" "[I", Cond.fieldLink RX2 13 "GustMillModel" "wind" "[I", Cond.fieldLink RX2 9 "GustMillModel" "size" "[I", Cond.methodLink RX2 76 Lib.Math.min.name, Cond.static Lib.Math.min.name, Cond.initialized "java/lang/Math", Cond.code Lib.Math.min.name Lib.Math.min.code 2 (some .int), Cond.methodLink RX2 66 yX2_ahead, Cond.instanceMethod yX2_ahead, Cond.selects RX2 yX2_ahead yX2_ahead, Cond.code yX2_ahead cX2_ahead 4 (some .int), Cond.methodLink RX2 54 yX2_isDone, Cond.instanceMethod yX2_isDone, Cond.selects RX2 yX2_isDone yX2_isDone, Cond.code yX2_isDone cX2_isDone 2 (some .boolean)]
def wsX2_hoursOn_r2 : List Cond := [Cond.methodLink RX2 58 yX2_turn, Cond.instanceMethod yX2_turn, Cond.selects RX2 yX2_turn yX2_turn, Cond.code yX2_turn cX2_turn 2 (some .int), Cond.fieldLink RX2 51 "GustMillModel" "rule" "I", Cond.fieldLink RX2 19 "GustMillModel" "until" "[I", Cond.methodLink RX2 69 yX2_on, Cond.instanceMethod yX2_on, Cond.selects RX2 yX2_on yX2_on, Cond.code yX2_on cX2_on 3 (some .int), Cond.methodLink RX2 72 yX2_next, Cond.instanceMethod yX2_next, Cond.selects RX2 yX2_next yX2_next, Cond.code yX2_next cX2_next 4 (some .int)]
def wsX2_hoursOn : List Cond := .code yX2_hoursOn cX2_hoursOn 3 none :: ((wsX2_hoursOn_r1 ++ wsX2_hoursOn_r2) ++ wsX20)
def wsX2_addStone : List Cond := .code yX2_addStone cX2_addStone 2 (some .int) :: ([.fieldLink RX2 31 "GustMillModel" "thrown" "I", .fieldLink RX2 35 "GustMillModel" "stones" "I", .fieldLink RX2 9 "GustMillModel" "size" "[I", .methodLink RX2 38 yX2_isIn, .static yX2_isIn, .initialized RX2, .code yX2_isIn cX2_isIn 3 (some .boolean), .methodLink RX2 85 yX2_fail, .instanceMethod yX2_fail, .selects RX2 yX2_fail yX2_fail, .code yX2_fail cX2_fail 2 (some .int)] ++ wsX20)
def wsX2_setWind : List Cond := .code yX2_setWind cX2_setWind 4 (some .int) :: ([.fieldLink RX2 31 "GustMillModel" "thrown" "I", .fieldLink RX2 13 "GustMillModel" "wind" "[I", .methodLink RX2 38 yX2_isIn, .static yX2_isIn, .initialized RX2, .code yX2_isIn cX2_isIn 3 (some .boolean), .methodLink RX2 85 yX2_fail, .instanceMethod yX2_fail, .selects RX2 yX2_fail yX2_fail, .code yX2_fail cX2_fail 2 (some .int)] ++ wsX20)
def wsX2_setRule : List Cond := .code yX2_setRule cX2_setRule 3 (some .int) :: ([.fieldLink RX2 31 "GustMillModel" "thrown" "I", .fieldLink RX2 51 "GustMillModel" "rule" "I", .methodLink RX2 38 yX2_isIn, .static yX2_isIn, .initialized RX2, .code yX2_isIn cX2_isIn 3 (some .boolean), .methodLink RX2 85 yX2_fail, .instanceMethod yX2_fail, .selects RX2 yX2_fail yX2_fail, .code yX2_fail cX2_fail 2 (some .int)] ++ wsX20)
def wsX2_setTakingOff : List Cond := .code yX2_setTakingOff cX2_setTakingOff 3 (some .boolean) :: ([.fieldLink RX2 31 "GustMillModel" "thrown" "I", .fieldLink RX2 62 "GustMillModel" "isAllowed" "Z"] ++ wsX20)
def wsX2_put : List Cond := .code yX2_put cX2_put 4 none :: ([.fieldLink RX2 16 "GustMillModel" "baker" "[I", .fieldLink RX2 42 "GustMillModel" "sacks" "I", .fieldLink RX2 19 "GustMillModel" "until" "[I", .fieldLink RX2 22 "GustMillModel" "now" "[I"] ++ wsX20)
def wsX2_bring : List Cond := .code yX2_bring cX2_bring 4 (some .int) :: ([.fieldLink RX2 31 "GustMillModel" "thrown" "I", .fieldLink RX2 42 "GustMillModel" "sacks" "I", .methodLink RX2 38 yX2_isIn, .static yX2_isIn, .initialized RX2, .code yX2_isIn cX2_isIn 3 (some .boolean), .methodLink RX2 85 yX2_fail, .instanceMethod yX2_fail, .selects RX2 yX2_fail yX2_fail, .code yX2_fail cX2_fail 2 (some .int), .methodLink RX2 88 yX2_put, .instanceMethod yX2_put, .selects RX2 yX2_put yX2_put, .code yX2_put cX2_put 4 none, .fieldLink RX2 16 "GustMillModel" "baker" "[I", .fieldLink RX2 19 "GustMillModel" "until" "[I", .fieldLink RX2 22 "GustMillModel" "now" "[I"] ++ wsX20)
def wsX2_lift : List Cond := .code yX2_lift cX2_lift 3 (some .int) :: ([.fieldLink RX2 31 "GustMillModel" "thrown" "I", .fieldLink RX2 22 "GustMillModel" "now" "[I", .methodLink RX2 92 yX2_isSack, .instanceMethod yX2_isSack, .selects RX2 yX2_isSack yX2_isSack, .initialized RX2, .code yX2_isSack cX2_isSack 2 (some .boolean), .fieldLink RX2 42 "GustMillModel" "sacks" "I", .methodLink RX2 38 yX2_isIn, .static yX2_isIn, .code yX2_isIn cX2_isIn 3 (some .boolean), .methodLink RX2 85 yX2_fail, .instanceMethod yX2_fail, .selects RX2 yX2_fail yX2_fail, .code yX2_fail cX2_fail 2 (some .int)] ++ wsX20)
def wsX2_setUntil : List Cond := .code yX2_setUntil cX2_setUntil 4 (some .int) :: ([.fieldLink RX2 31 "GustMillModel" "thrown" "I", .fieldLink RX2 19 "GustMillModel" "until" "[I", .methodLink RX2 92 yX2_isSack, .instanceMethod yX2_isSack, .selects RX2 yX2_isSack yX2_isSack, .initialized RX2, .code yX2_isSack cX2_isSack 2 (some .boolean), .fieldLink RX2 42 "GustMillModel" "sacks" "I", .methodLink RX2 38 yX2_isIn, .static yX2_isIn, .code yX2_isIn cX2_isIn 3 (some .boolean), .methodLink RX2 85 yX2_fail, .instanceMethod yX2_fail, .selects RX2 yX2_fail yX2_fail, .code yX2_fail cX2_fail 2 (some .int)] ++ wsX20)
def wsX2_pass_r1 : List Cond := [Cond.fieldLink RX2 31 "GustMillModel" "thrown" "I", Cond.fieldLink RX2 22 "GustMillModel" "now" "[I", Cond.methodLink RX2 38 yX2_isIn, Cond.static yX2_isIn, Cond.initialized RX2, Cond.code yX2_isIn cX2_isIn 3 (some .boolean), Cond.methodLink RX2 85 yX2_fail, Cond.instanceMethod yX2_fail, Cond.selects RX2 yX2_fail yX2_fail, Cond.code yX2_fail cX2_fail 2 (some .int), Cond.methodLink RX2 95 yX2_hoursOn, Cond.instanceMethod yX2_hoursOn, Cond.selects RX2 yX2_hoursOn yX2_hoursOn, Cond.code yX2_hoursOn cX2_hoursOn 3 none, Cond.methodLink RX2 82 yX2_hourOn, Cond.instanceMethod yX2_hourOn, Cond.selects RX2 yX2_hourOn yX2_hourOn, Cond.code yX2_hourOn cX2_hourOn 5 none, Cond.fieldLink RX2 42 "GustMillModel" "sacks" "I", Cond.fieldLink RX2 62 "GustMillModel" "isAllowed" "Z", Cond.fieldLink RX2 35 "GustMillModel" "stones" "I", Cond.fieldLink RX2 28 "GustMillModel" "fresh" "[I", Cond.fieldLink RX2 13 "GustMillModel" "wind" "[I", Cond.fieldLink RX2 9 "GustMillModel" "size" "[I"]
def wsX2_pass_r2 : List Cond := [Cond.methodLink RX2 76 Lib.Math.min.name, Cond.static Lib.Math.min.name, Cond.initialized "java/lang/Math", Cond.code Lib.Math.min.name Lib.Math.min.code 2 (some .int), Cond.methodLink RX2 66 yX2_ahead, Cond.instanceMethod yX2_ahead, Cond.selects RX2 yX2_ahead yX2_ahead, Cond.code yX2_ahead cX2_ahead 4 (some .int), Cond.methodLink RX2 54 yX2_isDone, Cond.instanceMethod yX2_isDone, Cond.selects RX2 yX2_isDone yX2_isDone, Cond.code yX2_isDone cX2_isDone 2 (some .boolean), Cond.methodLink RX2 58 yX2_turn, Cond.instanceMethod yX2_turn, Cond.selects RX2 yX2_turn yX2_turn, Cond.code yX2_turn cX2_turn 2 (some .int), Cond.fieldLink RX2 51 "GustMillModel" "rule" "I", Cond.fieldLink RX2 19 "GustMillModel" "until" "[I", Cond.methodLink RX2 69 yX2_on, Cond.instanceMethod yX2_on, Cond.selects RX2 yX2_on yX2_on, Cond.code yX2_on cX2_on 3 (some .int), Cond.methodLink RX2 72 yX2_next, Cond.instanceMethod yX2_next]
def wsX2_pass_r3 : List Cond := [Cond.selects RX2 yX2_next yX2_next, Cond.code yX2_next cX2_next 4 (some .int)]
def wsX2_pass : List Cond := .code yX2_pass cX2_pass 3 (some .int) :: ((wsX2_pass_r1 ++ (wsX2_pass_r2 ++ wsX2_pass_r3)) ++ wsX20)
def wsX2_hour : List Cond := .code yX2_hour cX2_hour 1 (some .int) :: ([.fieldLink RX2 22 "GustMillModel" "now" "[I", .methodLink RX2 99 yX2_told, .instanceMethod yX2_told, .selects RX2 yX2_told yX2_told, .initialized RX2, .code yX2_told cX2_told 2 (some .int), .fieldLink RX2 31 "GustMillModel" "thrown" "I"] ++ wsX20)
def wsX2_stones : List Cond := .code yX2_stones cX2_stones 1 (some .int) :: ([.fieldLink RX2 35 "GustMillModel" "stones" "I", .methodLink RX2 99 yX2_told, .instanceMethod yX2_told, .selects RX2 yX2_told yX2_told, .initialized RX2, .code yX2_told cX2_told 2 (some .int), .fieldLink RX2 31 "GustMillModel" "thrown" "I"] ++ wsX20)
def wsX2_sacks : List Cond := .code yX2_sacks cX2_sacks 1 (some .int) :: ([.fieldLink RX2 42 "GustMillModel" "sacks" "I", .methodLink RX2 99 yX2_told, .instanceMethod yX2_told, .selects RX2 yX2_told yX2_told, .initialized RX2, .code yX2_told cX2_told 2 (some .int), .fieldLink RX2 31 "GustMillModel" "thrown" "I"] ++ wsX20)
def wsX2_rule : List Cond := .code yX2_rule cX2_rule 1 (some .int) :: ([.fieldLink RX2 51 "GustMillModel" "rule" "I", .methodLink RX2 99 yX2_told, .instanceMethod yX2_told, .selects RX2 yX2_told yX2_told, .initialized RX2, .code yX2_told cX2_told 2 (some .int), .fieldLink RX2 31 "GustMillModel" "thrown" "I"] ++ wsX20)
def wsX2_wind : List Cond := .code yX2_wind cX2_wind 1 (some .int) :: ([.fieldLink RX2 13 "GustMillModel" "wind" "[I", .fieldLink RX2 22 "GustMillModel" "now" "[I", .methodLink RX2 99 yX2_told, .instanceMethod yX2_told, .selects RX2 yX2_told yX2_told, .initialized RX2, .code yX2_told cX2_told 2 (some .int), .fieldLink RX2 31 "GustMillModel" "thrown" "I"] ++ wsX20)
def wsX2_sackOn : List Cond := .code yX2_sackOn cX2_sackOn 2 (some .int) :: ([.fieldLink RX2 31 "GustMillModel" "thrown" "I", .methodLink RX2 102 yX2_isStone, .instanceMethod yX2_isStone, .selects RX2 yX2_isStone yX2_isStone, .initialized RX2, .code yX2_isStone cX2_isStone 2 (some .boolean), .fieldLink RX2 35 "GustMillModel" "stones" "I", .methodLink RX2 38 yX2_isIn, .static yX2_isIn, .code yX2_isIn cX2_isIn 3 (some .boolean), .methodLink RX2 69 yX2_on, .instanceMethod yX2_on, .selects RX2 yX2_on yX2_on, .code yX2_on cX2_on 3 (some .int), .fieldLink RX2 42 "GustMillModel" "sacks" "I", .fieldLink RX2 22 "GustMillModel" "now" "[I", .methodLink RX2 85 yX2_fail, .instanceMethod yX2_fail, .selects RX2 yX2_fail yX2_fail, .code yX2_fail cX2_fail 2 (some .int)] ++ wsX20)
def wsX2_of : List Cond := .code yX2_of cX2_of 3 (some .int) :: ([.fieldLink RX2 31 "GustMillModel" "thrown" "I", .fieldLink RX2 22 "GustMillModel" "now" "[I", .methodLink RX2 92 yX2_isSack, .instanceMethod yX2_isSack, .selects RX2 yX2_isSack yX2_isSack, .initialized RX2, .code yX2_isSack cX2_isSack 2 (some .boolean), .fieldLink RX2 42 "GustMillModel" "sacks" "I", .methodLink RX2 38 yX2_isIn, .static yX2_isIn, .code yX2_isIn cX2_isIn 3 (some .boolean), .methodLink RX2 85 yX2_fail, .instanceMethod yX2_fail, .selects RX2 yX2_fail yX2_fail, .code yX2_fail cX2_fail 2 (some .int)] ++ wsX20)
def wsX2_stoneOf : List Cond := .code yX2_stoneOf cX2_stoneOf 2 (some .int) :: ([.methodLink RX2 105 yX2_of, .instanceMethod yX2_of, .selects RX2 yX2_of yX2_of, .initialized RX2, .code yX2_of cX2_of 3 (some .int), .fieldLink RX2 31 "GustMillModel" "thrown" "I", .fieldLink RX2 22 "GustMillModel" "now" "[I", .methodLink RX2 92 yX2_isSack, .instanceMethod yX2_isSack, .selects RX2 yX2_isSack yX2_isSack, .code yX2_isSack cX2_isSack 2 (some .boolean), .fieldLink RX2 42 "GustMillModel" "sacks" "I", .methodLink RX2 38 yX2_isIn, .static yX2_isIn, .code yX2_isIn cX2_isIn 3 (some .boolean), .methodLink RX2 85 yX2_fail, .instanceMethod yX2_fail, .selects RX2 yX2_fail yX2_fail, .code yX2_fail cX2_fail 2 (some .int)] ++ wsX20)
def wsX2_leftOf : List Cond := .code yX2_leftOf cX2_leftOf 2 (some .int) :: ([.methodLink RX2 105 yX2_of, .instanceMethod yX2_of, .selects RX2 yX2_of yX2_of, .initialized RX2, .code yX2_of cX2_of 3 (some .int), .fieldLink RX2 31 "GustMillModel" "thrown" "I", .fieldLink RX2 22 "GustMillModel" "now" "[I", .methodLink RX2 92 yX2_isSack, .instanceMethod yX2_isSack, .selects RX2 yX2_isSack yX2_isSack, .code yX2_isSack cX2_isSack 2 (some .boolean), .fieldLink RX2 42 "GustMillModel" "sacks" "I", .methodLink RX2 38 yX2_isIn, .static yX2_isIn, .code yX2_isIn cX2_isIn 3 (some .boolean), .methodLink RX2 85 yX2_fail, .instanceMethod yX2_fail, .selects RX2 yX2_fail yX2_fail, .code yX2_fail cX2_fail 2 (some .int)] ++ wsX20)
def wsX2_untilOf : List Cond := .code yX2_untilOf cX2_untilOf 2 (some .int) :: ([.fieldLink RX2 31 "GustMillModel" "thrown" "I", .fieldLink RX2 19 "GustMillModel" "until" "[I", .methodLink RX2 92 yX2_isSack, .instanceMethod yX2_isSack, .selects RX2 yX2_isSack yX2_isSack, .initialized RX2, .code yX2_isSack cX2_isSack 2 (some .boolean), .fieldLink RX2 42 "GustMillModel" "sacks" "I", .methodLink RX2 38 yX2_isIn, .static yX2_isIn, .code yX2_isIn cX2_isIn 3 (some .boolean), .methodLink RX2 85 yX2_fail, .instanceMethod yX2_fail, .selects RX2 yX2_fail yX2_fail, .code yX2_fail cX2_fail 2 (some .int)] ++ wsX20)
def wsX2_groundAt : List Cond := .code yX2_groundAt cX2_groundAt 2 (some .int) :: ([.methodLink RX2 105 yX2_of, .instanceMethod yX2_of, .selects RX2 yX2_of yX2_of, .initialized RX2, .code yX2_of cX2_of 3 (some .int), .fieldLink RX2 31 "GustMillModel" "thrown" "I", .fieldLink RX2 22 "GustMillModel" "now" "[I", .methodLink RX2 92 yX2_isSack, .instanceMethod yX2_isSack, .selects RX2 yX2_isSack yX2_isSack, .code yX2_isSack cX2_isSack 2 (some .boolean), .fieldLink RX2 42 "GustMillModel" "sacks" "I", .methodLink RX2 38 yX2_isIn, .static yX2_isIn, .code yX2_isIn cX2_isIn 3 (some .boolean), .methodLink RX2 85 yX2_fail, .instanceMethod yX2_fail, .selects RX2 yX2_fail yX2_fail, .code yX2_fail cX2_fail 2 (some .int)] ++ wsX20)
def wsX2_done : List Cond := .code yX2_done cX2_done 3 (some .int) :: ([.fieldLink RX2 42 "GustMillModel" "sacks" "I", .methodLink RX2 54 yX2_isDone, .instanceMethod yX2_isDone, .selects RX2 yX2_isDone yX2_isDone, .initialized RX2, .code yX2_isDone cX2_isDone 2 (some .boolean), .fieldLink RX2 22 "GustMillModel" "now" "[I"] ++ wsX20)
def wsX2_ground : List Cond := .code yX2_ground cX2_ground 1 (some .int) :: ([.methodLink RX2 108 yX2_done, .instanceMethod yX2_done, .selects RX2 yX2_done yX2_done, .initialized RX2, .code yX2_done cX2_done 3 (some .int), .fieldLink RX2 42 "GustMillModel" "sacks" "I", .methodLink RX2 54 yX2_isDone, .instanceMethod yX2_isDone, .selects RX2 yX2_isDone yX2_isDone, .code yX2_isDone cX2_isDone 2 (some .boolean), .fieldLink RX2 22 "GustMillModel" "now" "[I", .methodLink RX2 99 yX2_told, .instanceMethod yX2_told, .selects RX2 yX2_told yX2_told, .code yX2_told cX2_told 2 (some .int), .fieldLink RX2 31 "GustMillModel" "thrown" "I"] ++ wsX20)
def wsX2_changes : List Cond := .code yX2_changes cX2_changes 1 (some .int) :: ([.fieldLink RX2 22 "GustMillModel" "now" "[I", .methodLink RX2 99 yX2_told, .instanceMethod yX2_told, .selects RX2 yX2_told yX2_told, .initialized RX2, .code yX2_told cX2_told 2 (some .int), .fieldLink RX2 31 "GustMillModel" "thrown" "I"] ++ wsX20)
def wsX2_first : List Cond := .code yX2_first cX2_first 1 (some .int) :: ([.methodLink RX2 72 yX2_next, .instanceMethod yX2_next, .selects RX2 yX2_next yX2_next, .initialized RX2, .code yX2_next cX2_next 4 (some .int), .fieldLink RX2 42 "GustMillModel" "sacks" "I", .fieldLink RX2 22 "GustMillModel" "now" "[I", .methodLink RX2 54 yX2_isDone, .instanceMethod yX2_isDone, .selects RX2 yX2_isDone yX2_isDone, .code yX2_isDone cX2_isDone 2 (some .boolean), .methodLink RX2 58 yX2_turn, .instanceMethod yX2_turn, .selects RX2 yX2_turn yX2_turn, .code yX2_turn cX2_turn 2 (some .int), .fieldLink RX2 51 "GustMillModel" "rule" "I", .fieldLink RX2 19 "GustMillModel" "until" "[I", .methodLink RX2 99 yX2_told, .instanceMethod yX2_told, .selects RX2 yX2_told yX2_told, .code yX2_told cX2_told 2 (some .int), .fieldLink RX2 31 "GustMillModel" "thrown" "I"] ++ wsX20)
def wsX2_place : List Cond := .code yX2_place cX2_place 2 (some .int) :: ([.methodLink RX2 54 yX2_isDone, .instanceMethod yX2_isDone, .selects RX2 yX2_isDone yX2_isDone, .initialized RX2, .code yX2_isDone cX2_isDone 2 (some .boolean), .fieldLink RX2 22 "GustMillModel" "now" "[I", .methodLink RX2 66 yX2_ahead, .instanceMethod yX2_ahead, .selects RX2 yX2_ahead yX2_ahead, .code yX2_ahead cX2_ahead 4 (some .int), .fieldLink RX2 42 "GustMillModel" "sacks" "I", .methodLink RX2 58 yX2_turn, .instanceMethod yX2_turn, .selects RX2 yX2_turn yX2_turn, .code yX2_turn cX2_turn 2 (some .int), .fieldLink RX2 51 "GustMillModel" "rule" "I", .fieldLink RX2 19 "GustMillModel" "until" "[I"] ++ wsX20)
def wsX2_placeOf_r1 : List Cond := [Cond.fieldLink RX2 31 "GustMillModel" "thrown" "I", Cond.methodLink RX2 92 yX2_isSack, Cond.instanceMethod yX2_isSack, Cond.selects RX2 yX2_isSack yX2_isSack, Cond.initialized RX2, Cond.code yX2_isSack cX2_isSack 2 (some .boolean), Cond.fieldLink RX2 42 "GustMillModel" "sacks" "I", Cond.methodLink RX2 38 yX2_isIn, Cond.static yX2_isIn, Cond.code yX2_isIn cX2_isIn 3 (some .boolean), Cond.methodLink RX2 112 yX2_place, Cond.instanceMethod yX2_place, Cond.selects RX2 yX2_place yX2_place, Cond.code yX2_place cX2_place 2 (some .int), Cond.methodLink RX2 54 yX2_isDone, Cond.instanceMethod yX2_isDone, Cond.selects RX2 yX2_isDone yX2_isDone, Cond.code yX2_isDone cX2_isDone 2 (some .boolean), Cond.fieldLink RX2 22 "GustMillModel" "now" "[I", Cond.methodLink RX2 66 yX2_ahead, Cond.instanceMethod yX2_ahead, Cond.selects RX2 yX2_ahead yX2_ahead, Cond.code yX2_ahead cX2_ahead 4 (some .int), Cond.methodLink RX2 58 yX2_turn]
def wsX2_placeOf_r2 : List Cond := [Cond.instanceMethod yX2_turn, Cond.selects RX2 yX2_turn yX2_turn, Cond.code yX2_turn cX2_turn 2 (some .int), Cond.fieldLink RX2 51 "GustMillModel" "rule" "I", Cond.fieldLink RX2 19 "GustMillModel" "until" "[I", Cond.methodLink RX2 85 yX2_fail, Cond.instanceMethod yX2_fail, Cond.selects RX2 yX2_fail yX2_fail, Cond.code yX2_fail cX2_fail 2 (some .int)]
def wsX2_placeOf : List Cond := .code yX2_placeOf cX2_placeOf 2 (some .int) :: ((wsX2_placeOf_r1 ++ wsX2_placeOf_r2) ++ wsX20)
def wsX2_rest : List Cond := .code yX2_rest cX2_rest 4 (some .int) :: ([.fieldLink RX2 42 "GustMillModel" "sacks" "I", .fieldLink RX2 16 "GustMillModel" "baker" "[I", .fieldLink RX2 22 "GustMillModel" "now" "[I"] ++ wsX20)
def wsX2_leftFor : List Cond := .code yX2_leftFor cX2_leftFor 2 (some .int) :: ([.fieldLink RX2 31 "GustMillModel" "thrown" "I", .methodLink RX2 38 yX2_isIn, .static yX2_isIn, .initialized RX2, .code yX2_isIn cX2_isIn 3 (some .boolean), .methodLink RX2 115 yX2_rest, .instanceMethod yX2_rest, .selects RX2 yX2_rest yX2_rest, .code yX2_rest cX2_rest 4 (some .int), .fieldLink RX2 42 "GustMillModel" "sacks" "I", .fieldLink RX2 16 "GustMillModel" "baker" "[I", .fieldLink RX2 22 "GustMillModel" "now" "[I", .methodLink RX2 85 yX2_fail, .instanceMethod yX2_fail, .selects RX2 yX2_fail yX2_fail, .code yX2_fail cX2_fail 2 (some .int)] ++ wsX20)
def wsX2_lost : List Cond := .code yX2_lost cX2_lost 4 (some .int) :: ([.fieldLink RX2 42 "GustMillModel" "sacks" "I", .fieldLink RX2 22 "GustMillModel" "now" "[I", .fieldLink RX2 19 "GustMillModel" "until" "[I", .methodLink RX2 118 Lib.Math.max.name, .static Lib.Math.max.name, .initialized "java/lang/Math", .code Lib.Math.max.name Lib.Math.max.code 2 (some .int), .methodLink RX2 54 yX2_isDone, .instanceMethod yX2_isDone, .selects RX2 yX2_isDone yX2_isDone, .initialized RX2, .code yX2_isDone cX2_isDone 2 (some .boolean)] ++ wsX20)
def wsX2_late : List Cond := .code yX2_late cX2_late 1 (some .int) :: ([.methodLink RX2 121 yX2_lost, .instanceMethod yX2_lost, .selects RX2 yX2_lost yX2_lost, .initialized RX2, .code yX2_lost cX2_lost 4 (some .int), .fieldLink RX2 42 "GustMillModel" "sacks" "I", .fieldLink RX2 22 "GustMillModel" "now" "[I", .fieldLink RX2 19 "GustMillModel" "until" "[I", .methodLink RX2 118 Lib.Math.max.name, .static Lib.Math.max.name, .initialized "java/lang/Math", .code Lib.Math.max.name Lib.Math.max.code 2 (some .int), .methodLink RX2 54 yX2_isDone, .instanceMethod yX2_isDone, .selects RX2 yX2_isDone yX2_isDone, .code yX2_isDone cX2_isDone 2 (some .boolean), .methodLink RX2 99 yX2_told, .instanceMethod yX2_told, .selects RX2 yX2_told yX2_told, .code yX2_told cX2_told 2 (some .int), .fieldLink RX2 31 "GustMillModel" "thrown" "I"] ++ wsX20)
def wsX2_groundThen_r1 : List Cond := [Cond.fieldLink RX2 22 "GustMillModel" "now" "[I", Cond.methodLink RX2 124 yX2_keep, Cond.instanceMethod yX2_keep, Cond.selects RX2 yX2_keep yX2_keep, Cond.initialized RX2, Cond.code yX2_keep cX2_keep 1 none, Cond.fieldLink RX2 25 "GustMillModel" "kept" "[I", Cond.methodLink RX2 45 arraycopyName, Cond.native arraycopyName, Cond.static arraycopyName, Cond.initialized "java/lang/System", Cond.methodLink RX2 95 yX2_hoursOn, Cond.instanceMethod yX2_hoursOn, Cond.selects RX2 yX2_hoursOn yX2_hoursOn, Cond.code yX2_hoursOn cX2_hoursOn 3 none, Cond.methodLink RX2 82 yX2_hourOn, Cond.instanceMethod yX2_hourOn, Cond.selects RX2 yX2_hourOn yX2_hourOn, Cond.code yX2_hourOn cX2_hourOn 5 none, Cond.fieldLink RX2 42 "GustMillModel" "sacks" "I", Cond.fieldLink RX2 62 "GustMillModel" "isAllowed" "Z", Cond.fieldLink RX2 35 "GustMillModel" "stones" "I", Cond.fieldLink RX2 28 "GustMillModel" "fresh" "[I", Cond.fieldLink RX2 13 "GustMillModel" "wind" "[I"]
def wsX2_groundThen_r2 : List Cond := [Cond.fieldLink RX2 9 "GustMillModel" "size" "[I", Cond.methodLink RX2 76 Lib.Math.min.name, Cond.static Lib.Math.min.name, Cond.initialized "java/lang/Math", Cond.code Lib.Math.min.name Lib.Math.min.code 2 (some .int), Cond.methodLink RX2 66 yX2_ahead, Cond.instanceMethod yX2_ahead, Cond.selects RX2 yX2_ahead yX2_ahead, Cond.code yX2_ahead cX2_ahead 4 (some .int), Cond.methodLink RX2 54 yX2_isDone, Cond.instanceMethod yX2_isDone, Cond.selects RX2 yX2_isDone yX2_isDone, Cond.code yX2_isDone cX2_isDone 2 (some .boolean), Cond.methodLink RX2 58 yX2_turn, Cond.instanceMethod yX2_turn, Cond.selects RX2 yX2_turn yX2_turn, Cond.code yX2_turn cX2_turn 2 (some .int), Cond.fieldLink RX2 51 "GustMillModel" "rule" "I", Cond.fieldLink RX2 19 "GustMillModel" "until" "[I", Cond.methodLink RX2 69 yX2_on, Cond.instanceMethod yX2_on, Cond.selects RX2 yX2_on yX2_on, Cond.code yX2_on cX2_on 3 (some .int), Cond.methodLink RX2 72 yX2_next]
def wsX2_groundThen_r3 : List Cond := [Cond.instanceMethod yX2_next, Cond.selects RX2 yX2_next yX2_next, Cond.code yX2_next cX2_next 4 (some .int), Cond.methodLink RX2 127 yX2_bringBack, Cond.instanceMethod yX2_bringBack, Cond.selects RX2 yX2_bringBack yX2_bringBack, Cond.code yX2_bringBack cX2_bringBack 1 none]
def wsX2_groundThen : List Cond := .code yX2_groundThen cX2_groundThen 3 (some .int) :: ((wsX2_groundThen_r1 ++ (wsX2_groundThen_r2 ++ wsX2_groundThen_r3)) ++ wsX20)
def wsX2_willBeGroundAt_r1 : List Cond := [Cond.fieldLink RX2 31 "GustMillModel" "thrown" "I", Cond.methodLink RX2 92 yX2_isSack, Cond.instanceMethod yX2_isSack, Cond.selects RX2 yX2_isSack yX2_isSack, Cond.initialized RX2, Cond.code yX2_isSack cX2_isSack 2 (some .boolean), Cond.fieldLink RX2 42 "GustMillModel" "sacks" "I", Cond.methodLink RX2 38 yX2_isIn, Cond.static yX2_isIn, Cond.code yX2_isIn cX2_isIn 3 (some .boolean), Cond.methodLink RX2 130 yX2_groundThen, Cond.instanceMethod yX2_groundThen, Cond.selects RX2 yX2_groundThen yX2_groundThen, Cond.code yX2_groundThen cX2_groundThen 3 (some .int), Cond.fieldLink RX2 22 "GustMillModel" "now" "[I", Cond.methodLink RX2 124 yX2_keep, Cond.instanceMethod yX2_keep, Cond.selects RX2 yX2_keep yX2_keep, Cond.code yX2_keep cX2_keep 1 none, Cond.fieldLink RX2 25 "GustMillModel" "kept" "[I", Cond.methodLink RX2 45 arraycopyName, Cond.native arraycopyName, Cond.static arraycopyName, Cond.initialized "java/lang/System"]
def wsX2_willBeGroundAt_r2 : List Cond := [Cond.methodLink RX2 95 yX2_hoursOn, Cond.instanceMethod yX2_hoursOn, Cond.selects RX2 yX2_hoursOn yX2_hoursOn, Cond.code yX2_hoursOn cX2_hoursOn 3 none, Cond.methodLink RX2 82 yX2_hourOn, Cond.instanceMethod yX2_hourOn, Cond.selects RX2 yX2_hourOn yX2_hourOn, Cond.code yX2_hourOn cX2_hourOn 5 none, Cond.fieldLink RX2 62 "GustMillModel" "isAllowed" "Z", Cond.fieldLink RX2 35 "GustMillModel" "stones" "I", Cond.fieldLink RX2 28 "GustMillModel" "fresh" "[I", Cond.fieldLink RX2 13 "GustMillModel" "wind" "[I", Cond.fieldLink RX2 9 "GustMillModel" "size" "[I", Cond.methodLink RX2 76 Lib.Math.min.name, Cond.static Lib.Math.min.name, Cond.initialized "java/lang/Math", Cond.code Lib.Math.min.name Lib.Math.min.code 2 (some .int), Cond.methodLink RX2 66 yX2_ahead, Cond.instanceMethod yX2_ahead, Cond.selects RX2 yX2_ahead yX2_ahead, Cond.code yX2_ahead cX2_ahead 4 (some .int), Cond.methodLink RX2 54 yX2_isDone, Cond.instanceMethod yX2_isDone, Cond.selects RX2 yX2_isDone yX2_isDone]
def wsX2_willBeGroundAt_r3 : List Cond := [Cond.code yX2_isDone cX2_isDone 2 (some .boolean), Cond.methodLink RX2 58 yX2_turn, Cond.instanceMethod yX2_turn, Cond.selects RX2 yX2_turn yX2_turn, Cond.code yX2_turn cX2_turn 2 (some .int), Cond.fieldLink RX2 51 "GustMillModel" "rule" "I", Cond.fieldLink RX2 19 "GustMillModel" "until" "[I", Cond.methodLink RX2 69 yX2_on, Cond.instanceMethod yX2_on, Cond.selects RX2 yX2_on yX2_on, Cond.code yX2_on cX2_on 3 (some .int), Cond.methodLink RX2 72 yX2_next, Cond.instanceMethod yX2_next, Cond.selects RX2 yX2_next yX2_next, Cond.code yX2_next cX2_next 4 (some .int), Cond.methodLink RX2 127 yX2_bringBack, Cond.instanceMethod yX2_bringBack, Cond.selects RX2 yX2_bringBack yX2_bringBack, Cond.code yX2_bringBack cX2_bringBack 1 none, Cond.methodLink RX2 85 yX2_fail, Cond.instanceMethod yX2_fail, Cond.selects RX2 yX2_fail yX2_fail, Cond.code yX2_fail cX2_fail 2 (some .int)]
def wsX2_willBeGroundAt : List Cond := .code yX2_willBeGroundAt cX2_willBeGroundAt 2 (some .int) :: ((wsX2_willBeGroundAt_r1 ++ (wsX2_willBeGroundAt_r2 ++ wsX2_willBeGroundAt_r3)) ++ wsX20)
def wsX2_spareOf_r1 : List Cond := [Cond.fieldLink RX2 31 "GustMillModel" "thrown" "I", Cond.fieldLink RX2 19 "GustMillModel" "until" "[I", Cond.methodLink RX2 92 yX2_isSack, Cond.instanceMethod yX2_isSack, Cond.selects RX2 yX2_isSack yX2_isSack, Cond.initialized RX2, Cond.code yX2_isSack cX2_isSack 2 (some .boolean), Cond.fieldLink RX2 42 "GustMillModel" "sacks" "I", Cond.methodLink RX2 38 yX2_isIn, Cond.static yX2_isIn, Cond.code yX2_isIn cX2_isIn 3 (some .boolean), Cond.methodLink RX2 85 yX2_fail, Cond.instanceMethod yX2_fail, Cond.selects RX2 yX2_fail yX2_fail, Cond.code yX2_fail cX2_fail 2 (some .int), Cond.methodLink RX2 130 yX2_groundThen, Cond.instanceMethod yX2_groundThen, Cond.selects RX2 yX2_groundThen yX2_groundThen, Cond.code yX2_groundThen cX2_groundThen 3 (some .int), Cond.fieldLink RX2 22 "GustMillModel" "now" "[I", Cond.methodLink RX2 124 yX2_keep, Cond.instanceMethod yX2_keep, Cond.selects RX2 yX2_keep yX2_keep, Cond.code yX2_keep cX2_keep 1 none]
def wsX2_spareOf_r2 : List Cond := [Cond.fieldLink RX2 25 "GustMillModel" "kept" "[I", Cond.methodLink RX2 45 arraycopyName, Cond.native arraycopyName, Cond.static arraycopyName, Cond.initialized "java/lang/System", Cond.methodLink RX2 95 yX2_hoursOn, Cond.instanceMethod yX2_hoursOn, Cond.selects RX2 yX2_hoursOn yX2_hoursOn, Cond.code yX2_hoursOn cX2_hoursOn 3 none, Cond.methodLink RX2 82 yX2_hourOn, Cond.instanceMethod yX2_hourOn, Cond.selects RX2 yX2_hourOn yX2_hourOn, Cond.code yX2_hourOn cX2_hourOn 5 none, Cond.fieldLink RX2 62 "GustMillModel" "isAllowed" "Z", Cond.fieldLink RX2 35 "GustMillModel" "stones" "I", Cond.fieldLink RX2 28 "GustMillModel" "fresh" "[I", Cond.fieldLink RX2 13 "GustMillModel" "wind" "[I", Cond.fieldLink RX2 9 "GustMillModel" "size" "[I", Cond.methodLink RX2 76 Lib.Math.min.name, Cond.static Lib.Math.min.name, Cond.initialized "java/lang/Math", Cond.code Lib.Math.min.name Lib.Math.min.code 2 (some .int), Cond.methodLink RX2 66 yX2_ahead, Cond.instanceMethod yX2_ahead]
def wsX2_spareOf_r3 : List Cond := [Cond.selects RX2 yX2_ahead yX2_ahead, Cond.code yX2_ahead cX2_ahead 4 (some .int), Cond.methodLink RX2 54 yX2_isDone, Cond.instanceMethod yX2_isDone, Cond.selects RX2 yX2_isDone yX2_isDone, Cond.code yX2_isDone cX2_isDone 2 (some .boolean), Cond.methodLink RX2 58 yX2_turn, Cond.instanceMethod yX2_turn, Cond.selects RX2 yX2_turn yX2_turn, Cond.code yX2_turn cX2_turn 2 (some .int), Cond.fieldLink RX2 51 "GustMillModel" "rule" "I", Cond.methodLink RX2 69 yX2_on, Cond.instanceMethod yX2_on, Cond.selects RX2 yX2_on yX2_on, Cond.code yX2_on cX2_on 3 (some .int), Cond.methodLink RX2 72 yX2_next, Cond.instanceMethod yX2_next, Cond.selects RX2 yX2_next yX2_next, Cond.code yX2_next cX2_next 4 (some .int), Cond.methodLink RX2 127 yX2_bringBack, Cond.instanceMethod yX2_bringBack, Cond.selects RX2 yX2_bringBack yX2_bringBack, Cond.code yX2_bringBack cX2_bringBack 1 none]
def wsX2_spareOf : List Cond := .code yX2_spareOf cX2_spareOf 3 (some .int) :: ((wsX2_spareOf_r1 ++ (wsX2_spareOf_r2 ++ wsX2_spareOf_r3)) ++ wsX20)
def wsX2_lostBy_r1 : List Cond := [Cond.fieldLink RX2 51 "GustMillModel" "rule" "I", Cond.fieldLink RX2 62 "GustMillModel" "isAllowed" "Z", Cond.methodLink RX2 124 yX2_keep, Cond.instanceMethod yX2_keep, Cond.selects RX2 yX2_keep yX2_keep, Cond.initialized RX2, Cond.code yX2_keep cX2_keep 1 none, Cond.fieldLink RX2 22 "GustMillModel" "now" "[I", Cond.fieldLink RX2 25 "GustMillModel" "kept" "[I", Cond.methodLink RX2 45 arraycopyName, Cond.native arraycopyName, Cond.static arraycopyName, Cond.initialized "java/lang/System", Cond.methodLink RX2 95 yX2_hoursOn, Cond.instanceMethod yX2_hoursOn, Cond.selects RX2 yX2_hoursOn yX2_hoursOn, Cond.code yX2_hoursOn cX2_hoursOn 3 none, Cond.methodLink RX2 82 yX2_hourOn, Cond.instanceMethod yX2_hourOn, Cond.selects RX2 yX2_hourOn yX2_hourOn, Cond.code yX2_hourOn cX2_hourOn 5 none, Cond.fieldLink RX2 42 "GustMillModel" "sacks" "I", Cond.fieldLink RX2 35 "GustMillModel" "stones" "I", Cond.fieldLink RX2 28 "GustMillModel" "fresh" "[I"]
def wsX2_lostBy_r2 : List Cond := [Cond.fieldLink RX2 13 "GustMillModel" "wind" "[I", Cond.fieldLink RX2 9 "GustMillModel" "size" "[I", Cond.methodLink RX2 76 Lib.Math.min.name, Cond.static Lib.Math.min.name, Cond.initialized "java/lang/Math", Cond.code Lib.Math.min.name Lib.Math.min.code 2 (some .int), Cond.methodLink RX2 66 yX2_ahead, Cond.instanceMethod yX2_ahead, Cond.selects RX2 yX2_ahead yX2_ahead, Cond.code yX2_ahead cX2_ahead 4 (some .int), Cond.methodLink RX2 54 yX2_isDone, Cond.instanceMethod yX2_isDone, Cond.selects RX2 yX2_isDone yX2_isDone, Cond.code yX2_isDone cX2_isDone 2 (some .boolean), Cond.methodLink RX2 58 yX2_turn, Cond.instanceMethod yX2_turn, Cond.selects RX2 yX2_turn yX2_turn, Cond.code yX2_turn cX2_turn 2 (some .int), Cond.fieldLink RX2 19 "GustMillModel" "until" "[I", Cond.methodLink RX2 69 yX2_on, Cond.instanceMethod yX2_on, Cond.selects RX2 yX2_on yX2_on, Cond.code yX2_on cX2_on 3 (some .int), Cond.methodLink RX2 72 yX2_next]
def wsX2_lostBy_r3 : List Cond := [Cond.instanceMethod yX2_next, Cond.selects RX2 yX2_next yX2_next, Cond.code yX2_next cX2_next 4 (some .int), Cond.methodLink RX2 121 yX2_lost, Cond.instanceMethod yX2_lost, Cond.selects RX2 yX2_lost yX2_lost, Cond.code yX2_lost cX2_lost 4 (some .int), Cond.methodLink RX2 118 Lib.Math.max.name, Cond.static Lib.Math.max.name, Cond.code Lib.Math.max.name Lib.Math.max.code 2 (some .int), Cond.methodLink RX2 127 yX2_bringBack, Cond.instanceMethod yX2_bringBack, Cond.selects RX2 yX2_bringBack yX2_bringBack, Cond.code yX2_bringBack cX2_bringBack 1 none]
def wsX2_lostBy : List Cond := .code yX2_lostBy cX2_lostBy 6 (some .int) :: ((wsX2_lostBy_r1 ++ (wsX2_lostBy_r2 ++ wsX2_lostBy_r3)) ++ wsX20)
def wsX2_lateWith_r1 : List Cond := [Cond.fieldLink RX2 31 "GustMillModel" "thrown" "I", Cond.methodLink RX2 38 yX2_isIn, Cond.static yX2_isIn, Cond.initialized RX2, Cond.code yX2_isIn cX2_isIn 3 (some .boolean), Cond.methodLink RX2 133 yX2_lostBy, Cond.instanceMethod yX2_lostBy, Cond.selects RX2 yX2_lostBy yX2_lostBy, Cond.code yX2_lostBy cX2_lostBy 6 (some .int), Cond.fieldLink RX2 51 "GustMillModel" "rule" "I", Cond.fieldLink RX2 62 "GustMillModel" "isAllowed" "Z", Cond.methodLink RX2 124 yX2_keep, Cond.instanceMethod yX2_keep, Cond.selects RX2 yX2_keep yX2_keep, Cond.code yX2_keep cX2_keep 1 none, Cond.fieldLink RX2 22 "GustMillModel" "now" "[I", Cond.fieldLink RX2 25 "GustMillModel" "kept" "[I", Cond.methodLink RX2 45 arraycopyName, Cond.native arraycopyName, Cond.static arraycopyName, Cond.initialized "java/lang/System", Cond.methodLink RX2 95 yX2_hoursOn, Cond.instanceMethod yX2_hoursOn, Cond.selects RX2 yX2_hoursOn yX2_hoursOn]
def wsX2_lateWith_r2 : List Cond := [Cond.code yX2_hoursOn cX2_hoursOn 3 none, Cond.methodLink RX2 82 yX2_hourOn, Cond.instanceMethod yX2_hourOn, Cond.selects RX2 yX2_hourOn yX2_hourOn, Cond.code yX2_hourOn cX2_hourOn 5 none, Cond.fieldLink RX2 42 "GustMillModel" "sacks" "I", Cond.fieldLink RX2 35 "GustMillModel" "stones" "I", Cond.fieldLink RX2 28 "GustMillModel" "fresh" "[I", Cond.fieldLink RX2 13 "GustMillModel" "wind" "[I", Cond.fieldLink RX2 9 "GustMillModel" "size" "[I", Cond.methodLink RX2 76 Lib.Math.min.name, Cond.static Lib.Math.min.name, Cond.initialized "java/lang/Math", Cond.code Lib.Math.min.name Lib.Math.min.code 2 (some .int), Cond.methodLink RX2 66 yX2_ahead, Cond.instanceMethod yX2_ahead, Cond.selects RX2 yX2_ahead yX2_ahead, Cond.code yX2_ahead cX2_ahead 4 (some .int), Cond.methodLink RX2 54 yX2_isDone, Cond.instanceMethod yX2_isDone, Cond.selects RX2 yX2_isDone yX2_isDone, Cond.code yX2_isDone cX2_isDone 2 (some .boolean), Cond.methodLink RX2 58 yX2_turn, Cond.instanceMethod yX2_turn]
def wsX2_lateWith_r3 : List Cond := [Cond.selects RX2 yX2_turn yX2_turn, Cond.code yX2_turn cX2_turn 2 (some .int), Cond.fieldLink RX2 19 "GustMillModel" "until" "[I", Cond.methodLink RX2 69 yX2_on, Cond.instanceMethod yX2_on, Cond.selects RX2 yX2_on yX2_on, Cond.code yX2_on cX2_on 3 (some .int), Cond.methodLink RX2 72 yX2_next, Cond.instanceMethod yX2_next, Cond.selects RX2 yX2_next yX2_next, Cond.code yX2_next cX2_next 4 (some .int), Cond.methodLink RX2 121 yX2_lost, Cond.instanceMethod yX2_lost, Cond.selects RX2 yX2_lost yX2_lost, Cond.code yX2_lost cX2_lost 4 (some .int), Cond.methodLink RX2 118 Lib.Math.max.name, Cond.static Lib.Math.max.name, Cond.code Lib.Math.max.name Lib.Math.max.code 2 (some .int), Cond.methodLink RX2 127 yX2_bringBack, Cond.instanceMethod yX2_bringBack, Cond.selects RX2 yX2_bringBack yX2_bringBack, Cond.code yX2_bringBack cX2_bringBack 1 none, Cond.methodLink RX2 85 yX2_fail, Cond.instanceMethod yX2_fail]
def wsX2_lateWith_r4 : List Cond := [Cond.selects RX2 yX2_fail yX2_fail, Cond.code yX2_fail cX2_fail 2 (some .int)]
def wsX2_lateWith : List Cond := .code yX2_lateWith cX2_lateWith 3 (some .int) :: ((wsX2_lateWith_r1 ++ (wsX2_lateWith_r2 ++ (wsX2_lateWith_r3 ++ wsX2_lateWith_r4))) ++ wsX20)
def wsX2_best_r1 : List Cond := [Cond.fieldLink RX2 62 "GustMillModel" "isAllowed" "Z", Cond.methodLink RX2 133 yX2_lostBy, Cond.instanceMethod yX2_lostBy, Cond.selects RX2 yX2_lostBy yX2_lostBy, Cond.initialized RX2, Cond.code yX2_lostBy cX2_lostBy 6 (some .int), Cond.fieldLink RX2 51 "GustMillModel" "rule" "I", Cond.methodLink RX2 124 yX2_keep, Cond.instanceMethod yX2_keep, Cond.selects RX2 yX2_keep yX2_keep, Cond.code yX2_keep cX2_keep 1 none, Cond.fieldLink RX2 22 "GustMillModel" "now" "[I", Cond.fieldLink RX2 25 "GustMillModel" "kept" "[I", Cond.methodLink RX2 45 arraycopyName, Cond.native arraycopyName, Cond.static arraycopyName, Cond.initialized "java/lang/System", Cond.methodLink RX2 95 yX2_hoursOn, Cond.instanceMethod yX2_hoursOn, Cond.selects RX2 yX2_hoursOn yX2_hoursOn, Cond.code yX2_hoursOn cX2_hoursOn 3 none, Cond.methodLink RX2 82 yX2_hourOn, Cond.instanceMethod yX2_hourOn, Cond.selects RX2 yX2_hourOn yX2_hourOn]
def wsX2_best_r2 : List Cond := [Cond.code yX2_hourOn cX2_hourOn 5 none, Cond.fieldLink RX2 42 "GustMillModel" "sacks" "I", Cond.fieldLink RX2 35 "GustMillModel" "stones" "I", Cond.fieldLink RX2 28 "GustMillModel" "fresh" "[I", Cond.fieldLink RX2 13 "GustMillModel" "wind" "[I", Cond.fieldLink RX2 9 "GustMillModel" "size" "[I", Cond.methodLink RX2 76 Lib.Math.min.name, Cond.static Lib.Math.min.name, Cond.initialized "java/lang/Math", Cond.code Lib.Math.min.name Lib.Math.min.code 2 (some .int), Cond.methodLink RX2 66 yX2_ahead, Cond.instanceMethod yX2_ahead, Cond.selects RX2 yX2_ahead yX2_ahead, Cond.code yX2_ahead cX2_ahead 4 (some .int), Cond.methodLink RX2 54 yX2_isDone, Cond.instanceMethod yX2_isDone, Cond.selects RX2 yX2_isDone yX2_isDone, Cond.code yX2_isDone cX2_isDone 2 (some .boolean), Cond.methodLink RX2 58 yX2_turn, Cond.instanceMethod yX2_turn, Cond.selects RX2 yX2_turn yX2_turn, Cond.code yX2_turn cX2_turn 2 (some .int), Cond.fieldLink RX2 19 "GustMillModel" "until" "[I", Cond.methodLink RX2 69 yX2_on]
def wsX2_best_r3 : List Cond := [Cond.instanceMethod yX2_on, Cond.selects RX2 yX2_on yX2_on, Cond.code yX2_on cX2_on 3 (some .int), Cond.methodLink RX2 72 yX2_next, Cond.instanceMethod yX2_next, Cond.selects RX2 yX2_next yX2_next, Cond.code yX2_next cX2_next 4 (some .int), Cond.methodLink RX2 121 yX2_lost, Cond.instanceMethod yX2_lost, Cond.selects RX2 yX2_lost yX2_lost, Cond.code yX2_lost cX2_lost 4 (some .int), Cond.methodLink RX2 118 Lib.Math.max.name, Cond.static Lib.Math.max.name, Cond.code Lib.Math.max.name Lib.Math.max.code 2 (some .int), Cond.methodLink RX2 127 yX2_bringBack, Cond.instanceMethod yX2_bringBack, Cond.selects RX2 yX2_bringBack yX2_bringBack, Cond.code yX2_bringBack cX2_bringBack 1 none]
def wsX2_best : List Cond := .code yX2_best cX2_best 5 (some .int) :: ((wsX2_best_r1 ++ (wsX2_best_r2 ++ wsX2_best_r3)) ++ wsX20)
def wsX2_bestRule_r1 : List Cond := [Cond.methodLink RX2 137 yX2_best, Cond.instanceMethod yX2_best, Cond.selects RX2 yX2_best yX2_best, Cond.initialized RX2, Cond.code yX2_best cX2_best 5 (some .int), Cond.fieldLink RX2 62 "GustMillModel" "isAllowed" "Z", Cond.methodLink RX2 133 yX2_lostBy, Cond.instanceMethod yX2_lostBy, Cond.selects RX2 yX2_lostBy yX2_lostBy, Cond.code yX2_lostBy cX2_lostBy 6 (some .int), Cond.fieldLink RX2 51 "GustMillModel" "rule" "I", Cond.methodLink RX2 124 yX2_keep, Cond.instanceMethod yX2_keep, Cond.selects RX2 yX2_keep yX2_keep, Cond.code yX2_keep cX2_keep 1 none, Cond.fieldLink RX2 22 "GustMillModel" "now" "[I", Cond.fieldLink RX2 25 "GustMillModel" "kept" "[I", Cond.methodLink RX2 45 arraycopyName, Cond.native arraycopyName, Cond.static arraycopyName, Cond.initialized "java/lang/System", Cond.methodLink RX2 95 yX2_hoursOn, Cond.instanceMethod yX2_hoursOn, Cond.selects RX2 yX2_hoursOn yX2_hoursOn]
def wsX2_bestRule_r2 : List Cond := [Cond.code yX2_hoursOn cX2_hoursOn 3 none, Cond.methodLink RX2 82 yX2_hourOn, Cond.instanceMethod yX2_hourOn, Cond.selects RX2 yX2_hourOn yX2_hourOn, Cond.code yX2_hourOn cX2_hourOn 5 none, Cond.fieldLink RX2 42 "GustMillModel" "sacks" "I", Cond.fieldLink RX2 35 "GustMillModel" "stones" "I", Cond.fieldLink RX2 28 "GustMillModel" "fresh" "[I", Cond.fieldLink RX2 13 "GustMillModel" "wind" "[I", Cond.fieldLink RX2 9 "GustMillModel" "size" "[I", Cond.methodLink RX2 76 Lib.Math.min.name, Cond.static Lib.Math.min.name, Cond.initialized "java/lang/Math", Cond.code Lib.Math.min.name Lib.Math.min.code 2 (some .int), Cond.methodLink RX2 66 yX2_ahead, Cond.instanceMethod yX2_ahead, Cond.selects RX2 yX2_ahead yX2_ahead, Cond.code yX2_ahead cX2_ahead 4 (some .int), Cond.methodLink RX2 54 yX2_isDone, Cond.instanceMethod yX2_isDone, Cond.selects RX2 yX2_isDone yX2_isDone, Cond.code yX2_isDone cX2_isDone 2 (some .boolean), Cond.methodLink RX2 58 yX2_turn, Cond.instanceMethod yX2_turn]
def wsX2_bestRule_r3 : List Cond := [Cond.selects RX2 yX2_turn yX2_turn, Cond.code yX2_turn cX2_turn 2 (some .int), Cond.fieldLink RX2 19 "GustMillModel" "until" "[I", Cond.methodLink RX2 69 yX2_on, Cond.instanceMethod yX2_on, Cond.selects RX2 yX2_on yX2_on, Cond.code yX2_on cX2_on 3 (some .int), Cond.methodLink RX2 72 yX2_next, Cond.instanceMethod yX2_next, Cond.selects RX2 yX2_next yX2_next, Cond.code yX2_next cX2_next 4 (some .int), Cond.methodLink RX2 121 yX2_lost, Cond.instanceMethod yX2_lost, Cond.selects RX2 yX2_lost yX2_lost, Cond.code yX2_lost cX2_lost 4 (some .int), Cond.methodLink RX2 118 Lib.Math.max.name, Cond.static Lib.Math.max.name, Cond.code Lib.Math.max.name Lib.Math.max.code 2 (some .int), Cond.methodLink RX2 127 yX2_bringBack, Cond.instanceMethod yX2_bringBack, Cond.selects RX2 yX2_bringBack yX2_bringBack, Cond.code yX2_bringBack cX2_bringBack 1 none, Cond.methodLink RX2 99 yX2_told, Cond.instanceMethod yX2_told]
def wsX2_bestRule_r4 : List Cond := [Cond.selects RX2 yX2_told yX2_told, Cond.code yX2_told cX2_told 2 (some .int), Cond.fieldLink RX2 31 "GustMillModel" "thrown" "I"]
def wsX2_bestRule : List Cond := .code yX2_bestRule cX2_bestRule 1 (some .int) :: ((wsX2_bestRule_r1 ++ (wsX2_bestRule_r2 ++ (wsX2_bestRule_r3 ++ wsX2_bestRule_r4))) ++ wsX20)
def wsX2_wouldBeInTime_r1 : List Cond := [Cond.fieldLink RX2 31 "GustMillModel" "thrown" "I", Cond.fieldLink RX2 42 "GustMillModel" "sacks" "I", Cond.fieldLink RX2 22 "GustMillModel" "now" "[I", Cond.methodLink RX2 38 yX2_isIn, Cond.static yX2_isIn, Cond.initialized RX2, Cond.code yX2_isIn cX2_isIn 3 (some .boolean), Cond.methodLink RX2 124 yX2_keep, Cond.instanceMethod yX2_keep, Cond.selects RX2 yX2_keep yX2_keep, Cond.code yX2_keep cX2_keep 1 none, Cond.fieldLink RX2 25 "GustMillModel" "kept" "[I", Cond.methodLink RX2 45 arraycopyName, Cond.native arraycopyName, Cond.static arraycopyName, Cond.initialized "java/lang/System", Cond.methodLink RX2 88 yX2_put, Cond.instanceMethod yX2_put, Cond.selects RX2 yX2_put yX2_put, Cond.code yX2_put cX2_put 4 none, Cond.fieldLink RX2 16 "GustMillModel" "baker" "[I", Cond.fieldLink RX2 19 "GustMillModel" "until" "[I", Cond.methodLink RX2 95 yX2_hoursOn, Cond.instanceMethod yX2_hoursOn]
def wsX2_wouldBeInTime_r2 : List Cond := [Cond.selects RX2 yX2_hoursOn yX2_hoursOn, Cond.code yX2_hoursOn cX2_hoursOn 3 none, Cond.methodLink RX2 82 yX2_hourOn, Cond.instanceMethod yX2_hourOn, Cond.selects RX2 yX2_hourOn yX2_hourOn, Cond.code yX2_hourOn cX2_hourOn 5 none, Cond.fieldLink RX2 62 "GustMillModel" "isAllowed" "Z", Cond.fieldLink RX2 35 "GustMillModel" "stones" "I", Cond.fieldLink RX2 28 "GustMillModel" "fresh" "[I", Cond.fieldLink RX2 13 "GustMillModel" "wind" "[I", Cond.fieldLink RX2 9 "GustMillModel" "size" "[I", Cond.methodLink RX2 76 Lib.Math.min.name, Cond.static Lib.Math.min.name, Cond.initialized "java/lang/Math", Cond.code Lib.Math.min.name Lib.Math.min.code 2 (some .int), Cond.methodLink RX2 66 yX2_ahead, Cond.instanceMethod yX2_ahead, Cond.selects RX2 yX2_ahead yX2_ahead, Cond.code yX2_ahead cX2_ahead 4 (some .int), Cond.methodLink RX2 54 yX2_isDone, Cond.instanceMethod yX2_isDone, Cond.selects RX2 yX2_isDone yX2_isDone, Cond.code yX2_isDone cX2_isDone 2 (some .boolean), Cond.methodLink RX2 58 yX2_turn]
def wsX2_wouldBeInTime_r3 : List Cond := [Cond.instanceMethod yX2_turn, Cond.selects RX2 yX2_turn yX2_turn, Cond.code yX2_turn cX2_turn 2 (some .int), Cond.fieldLink RX2 51 "GustMillModel" "rule" "I", Cond.methodLink RX2 69 yX2_on, Cond.instanceMethod yX2_on, Cond.selects RX2 yX2_on yX2_on, Cond.code yX2_on cX2_on 3 (some .int), Cond.methodLink RX2 72 yX2_next, Cond.instanceMethod yX2_next, Cond.selects RX2 yX2_next yX2_next, Cond.code yX2_next cX2_next 4 (some .int), Cond.methodLink RX2 127 yX2_bringBack, Cond.instanceMethod yX2_bringBack, Cond.selects RX2 yX2_bringBack yX2_bringBack, Cond.code yX2_bringBack cX2_bringBack 1 none]
def wsX2_wouldBeInTime : List Cond := .code yX2_wouldBeInTime cX2_wouldBeInTime 4 (some .boolean) :: ((wsX2_wouldBeInTime_r1 ++ (wsX2_wouldBeInTime_r2 ++ wsX2_wouldBeInTime_r3)) ++ wsX20)
def wsX2_milledIn_r1 : List Cond := [Cond.fieldLink RX2 22 "GustMillModel" "now" "[I", Cond.methodLink RX2 124 yX2_keep, Cond.instanceMethod yX2_keep, Cond.selects RX2 yX2_keep yX2_keep, Cond.initialized RX2, Cond.code yX2_keep cX2_keep 1 none, Cond.fieldLink RX2 25 "GustMillModel" "kept" "[I", Cond.methodLink RX2 45 arraycopyName, Cond.native arraycopyName, Cond.static arraycopyName, Cond.initialized "java/lang/System", Cond.methodLink RX2 95 yX2_hoursOn, Cond.instanceMethod yX2_hoursOn, Cond.selects RX2 yX2_hoursOn yX2_hoursOn, Cond.code yX2_hoursOn cX2_hoursOn 3 none, Cond.methodLink RX2 82 yX2_hourOn, Cond.instanceMethod yX2_hourOn, Cond.selects RX2 yX2_hourOn yX2_hourOn, Cond.code yX2_hourOn cX2_hourOn 5 none, Cond.fieldLink RX2 42 "GustMillModel" "sacks" "I", Cond.fieldLink RX2 62 "GustMillModel" "isAllowed" "Z", Cond.fieldLink RX2 35 "GustMillModel" "stones" "I", Cond.fieldLink RX2 28 "GustMillModel" "fresh" "[I", Cond.fieldLink RX2 13 "GustMillModel" "wind" "[I"]
def wsX2_milledIn_r2 : List Cond := [Cond.fieldLink RX2 9 "GustMillModel" "size" "[I", Cond.methodLink RX2 76 Lib.Math.min.name, Cond.static Lib.Math.min.name, Cond.initialized "java/lang/Math", Cond.code Lib.Math.min.name Lib.Math.min.code 2 (some .int), Cond.methodLink RX2 66 yX2_ahead, Cond.instanceMethod yX2_ahead, Cond.selects RX2 yX2_ahead yX2_ahead, Cond.code yX2_ahead cX2_ahead 4 (some .int), Cond.methodLink RX2 54 yX2_isDone, Cond.instanceMethod yX2_isDone, Cond.selects RX2 yX2_isDone yX2_isDone, Cond.code yX2_isDone cX2_isDone 2 (some .boolean), Cond.methodLink RX2 58 yX2_turn, Cond.instanceMethod yX2_turn, Cond.selects RX2 yX2_turn yX2_turn, Cond.code yX2_turn cX2_turn 2 (some .int), Cond.fieldLink RX2 51 "GustMillModel" "rule" "I", Cond.fieldLink RX2 19 "GustMillModel" "until" "[I", Cond.methodLink RX2 69 yX2_on, Cond.instanceMethod yX2_on, Cond.selects RX2 yX2_on yX2_on, Cond.code yX2_on cX2_on 3 (some .int), Cond.methodLink RX2 72 yX2_next]
def wsX2_milledIn_r3 : List Cond := [Cond.instanceMethod yX2_next, Cond.selects RX2 yX2_next yX2_next, Cond.code yX2_next cX2_next 4 (some .int), Cond.methodLink RX2 127 yX2_bringBack, Cond.instanceMethod yX2_bringBack, Cond.selects RX2 yX2_bringBack yX2_bringBack, Cond.code yX2_bringBack cX2_bringBack 1 none]
def wsX2_milledIn : List Cond := .code yX2_milledIn cX2_milledIn 4 (some .int) :: ((wsX2_milledIn_r1 ++ (wsX2_milledIn_r2 ++ wsX2_milledIn_r3)) ++ wsX20)
def wsX2_groundIn_r1 : List Cond := [Cond.fieldLink RX2 31 "GustMillModel" "thrown" "I", Cond.methodLink RX2 38 yX2_isIn, Cond.static yX2_isIn, Cond.initialized RX2, Cond.code yX2_isIn cX2_isIn 3 (some .boolean), Cond.methodLink RX2 140 yX2_milledIn, Cond.instanceMethod yX2_milledIn, Cond.selects RX2 yX2_milledIn yX2_milledIn, Cond.code yX2_milledIn cX2_milledIn 4 (some .int), Cond.fieldLink RX2 22 "GustMillModel" "now" "[I", Cond.methodLink RX2 124 yX2_keep, Cond.instanceMethod yX2_keep, Cond.selects RX2 yX2_keep yX2_keep, Cond.code yX2_keep cX2_keep 1 none, Cond.fieldLink RX2 25 "GustMillModel" "kept" "[I", Cond.methodLink RX2 45 arraycopyName, Cond.native arraycopyName, Cond.static arraycopyName, Cond.initialized "java/lang/System", Cond.methodLink RX2 95 yX2_hoursOn, Cond.instanceMethod yX2_hoursOn, Cond.selects RX2 yX2_hoursOn yX2_hoursOn, Cond.code yX2_hoursOn cX2_hoursOn 3 none, Cond.methodLink RX2 82 yX2_hourOn]
def wsX2_groundIn_r2 : List Cond := [Cond.instanceMethod yX2_hourOn, Cond.selects RX2 yX2_hourOn yX2_hourOn, Cond.code yX2_hourOn cX2_hourOn 5 none, Cond.fieldLink RX2 42 "GustMillModel" "sacks" "I", Cond.fieldLink RX2 62 "GustMillModel" "isAllowed" "Z", Cond.fieldLink RX2 35 "GustMillModel" "stones" "I", Cond.fieldLink RX2 28 "GustMillModel" "fresh" "[I", Cond.fieldLink RX2 13 "GustMillModel" "wind" "[I", Cond.fieldLink RX2 9 "GustMillModel" "size" "[I", Cond.methodLink RX2 76 Lib.Math.min.name, Cond.static Lib.Math.min.name, Cond.initialized "java/lang/Math", Cond.code Lib.Math.min.name Lib.Math.min.code 2 (some .int), Cond.methodLink RX2 66 yX2_ahead, Cond.instanceMethod yX2_ahead, Cond.selects RX2 yX2_ahead yX2_ahead, Cond.code yX2_ahead cX2_ahead 4 (some .int), Cond.methodLink RX2 54 yX2_isDone, Cond.instanceMethod yX2_isDone, Cond.selects RX2 yX2_isDone yX2_isDone, Cond.code yX2_isDone cX2_isDone 2 (some .boolean), Cond.methodLink RX2 58 yX2_turn, Cond.instanceMethod yX2_turn, Cond.selects RX2 yX2_turn yX2_turn]
def wsX2_groundIn_r3 : List Cond := [Cond.code yX2_turn cX2_turn 2 (some .int), Cond.fieldLink RX2 51 "GustMillModel" "rule" "I", Cond.fieldLink RX2 19 "GustMillModel" "until" "[I", Cond.methodLink RX2 69 yX2_on, Cond.instanceMethod yX2_on, Cond.selects RX2 yX2_on yX2_on, Cond.code yX2_on cX2_on 3 (some .int), Cond.methodLink RX2 72 yX2_next, Cond.instanceMethod yX2_next, Cond.selects RX2 yX2_next yX2_next, Cond.code yX2_next cX2_next 4 (some .int), Cond.methodLink RX2 127 yX2_bringBack, Cond.instanceMethod yX2_bringBack, Cond.selects RX2 yX2_bringBack yX2_bringBack, Cond.code yX2_bringBack cX2_bringBack 1 none, Cond.methodLink RX2 85 yX2_fail, Cond.instanceMethod yX2_fail, Cond.selects RX2 yX2_fail yX2_fail, Cond.code yX2_fail cX2_fail 2 (some .int)]
def wsX2_groundIn : List Cond := .code yX2_groundIn cX2_groundIn 2 (some .int) :: ((wsX2_groundIn_r1 ++ (wsX2_groundIn_r2 ++ wsX2_groundIn_r3)) ++ wsX20)
def wsX2_meanLeft : List Cond := .code yX2_meanLeft cX2_meanLeft 3 (some .double) :: ([.fieldLink RX2 31 "GustMillModel" "thrown" "I", .fieldLink RX2 42 "GustMillModel" "sacks" "I", .fieldLink RX2 22 "GustMillModel" "now" "[I", .methodLink RX2 108 yX2_done, .instanceMethod yX2_done, .selects RX2 yX2_done yX2_done, .initialized RX2, .code yX2_done cX2_done 3 (some .int), .methodLink RX2 54 yX2_isDone, .instanceMethod yX2_isDone, .selects RX2 yX2_isDone yX2_isDone, .code yX2_isDone cX2_isDone 2 (some .boolean)] ++ wsX20)
def wsX2_digest_r1 : List Cond := [Cond.fieldLink RX2 31 "GustMillModel" "thrown" "I", Cond.arrayClass .int, Cond.fieldLink RX2 22 "GustMillModel" "now" "[I", Cond.fieldLink RX2 35 "GustMillModel" "stones" "I", Cond.fieldLink RX2 42 "GustMillModel" "sacks" "I", Cond.fieldLink RX2 51 "GustMillModel" "rule" "I", Cond.fieldLink RX2 13 "GustMillModel" "wind" "[I", Cond.constantLong RX2 143 (2281), Cond.constantLong RX2 145 (31), Cond.fieldLink RX2 19 "GustMillModel" "until" "[I", Cond.methodLink RX2 108 yX2_done, Cond.instanceMethod yX2_done, Cond.selects RX2 yX2_done yX2_done, Cond.initialized RX2, Cond.code yX2_done cX2_done 3 (some .int), Cond.methodLink RX2 54 yX2_isDone, Cond.instanceMethod yX2_isDone, Cond.selects RX2 yX2_isDone yX2_isDone, Cond.code yX2_isDone cX2_isDone 2 (some .boolean), Cond.methodLink RX2 72 yX2_next, Cond.instanceMethod yX2_next, Cond.selects RX2 yX2_next yX2_next, Cond.code yX2_next cX2_next 4 (some .int), Cond.methodLink RX2 58 yX2_turn]
def wsX2_digest_r2 : List Cond := [Cond.instanceMethod yX2_turn, Cond.selects RX2 yX2_turn yX2_turn, Cond.code yX2_turn cX2_turn 2 (some .int), Cond.methodLink RX2 121 yX2_lost, Cond.instanceMethod yX2_lost, Cond.selects RX2 yX2_lost yX2_lost, Cond.code yX2_lost cX2_lost 4 (some .int), Cond.methodLink RX2 118 Lib.Math.max.name, Cond.static Lib.Math.max.name, Cond.initialized "java/lang/Math", Cond.code Lib.Math.max.name Lib.Math.max.code 2 (some .int), Cond.methodLink RX2 137 yX2_best, Cond.instanceMethod yX2_best, Cond.selects RX2 yX2_best yX2_best, Cond.code yX2_best cX2_best 5 (some .int), Cond.fieldLink RX2 62 "GustMillModel" "isAllowed" "Z", Cond.methodLink RX2 133 yX2_lostBy, Cond.instanceMethod yX2_lostBy, Cond.selects RX2 yX2_lostBy yX2_lostBy, Cond.code yX2_lostBy cX2_lostBy 6 (some .int), Cond.methodLink RX2 124 yX2_keep, Cond.instanceMethod yX2_keep, Cond.selects RX2 yX2_keep yX2_keep, Cond.code yX2_keep cX2_keep 1 none]
def wsX2_digest_r3 : List Cond := [Cond.fieldLink RX2 25 "GustMillModel" "kept" "[I", Cond.methodLink RX2 45 arraycopyName, Cond.native arraycopyName, Cond.static arraycopyName, Cond.initialized "java/lang/System", Cond.methodLink RX2 95 yX2_hoursOn, Cond.instanceMethod yX2_hoursOn, Cond.selects RX2 yX2_hoursOn yX2_hoursOn, Cond.code yX2_hoursOn cX2_hoursOn 3 none, Cond.methodLink RX2 82 yX2_hourOn, Cond.instanceMethod yX2_hourOn, Cond.selects RX2 yX2_hourOn yX2_hourOn, Cond.code yX2_hourOn cX2_hourOn 5 none, Cond.fieldLink RX2 28 "GustMillModel" "fresh" "[I", Cond.fieldLink RX2 9 "GustMillModel" "size" "[I", Cond.methodLink RX2 76 Lib.Math.min.name, Cond.static Lib.Math.min.name, Cond.code Lib.Math.min.name Lib.Math.min.code 2 (some .int), Cond.methodLink RX2 66 yX2_ahead, Cond.instanceMethod yX2_ahead, Cond.selects RX2 yX2_ahead yX2_ahead, Cond.code yX2_ahead cX2_ahead 4 (some .int), Cond.methodLink RX2 69 yX2_on, Cond.instanceMethod yX2_on]
def wsX2_digest_r4 : List Cond := [Cond.selects RX2 yX2_on yX2_on, Cond.code yX2_on cX2_on 3 (some .int), Cond.methodLink RX2 127 yX2_bringBack, Cond.instanceMethod yX2_bringBack, Cond.selects RX2 yX2_bringBack yX2_bringBack, Cond.code yX2_bringBack cX2_bringBack 1 none, Cond.methodLink RX2 140 yX2_milledIn, Cond.instanceMethod yX2_milledIn, Cond.selects RX2 yX2_milledIn yX2_milledIn, Cond.code yX2_milledIn cX2_milledIn 4 (some .int), Cond.methodLink RX2 112 yX2_place, Cond.instanceMethod yX2_place, Cond.selects RX2 yX2_place yX2_place, Cond.code yX2_place cX2_place 2 (some .int), Cond.methodLink RX2 115 yX2_rest, Cond.instanceMethod yX2_rest, Cond.selects RX2 yX2_rest yX2_rest, Cond.code yX2_rest cX2_rest 4 (some .int), Cond.fieldLink RX2 16 "GustMillModel" "baker" "[I"]
def wsX2_digest : List Cond := .code yX2_digest cX2_digest 11 (some .long) :: ((wsX2_digest_r1 ++ (wsX2_digest_r2 ++ (wsX2_digest_r3 ++ wsX2_digest_r4))) ++ wsX20)
def wsJ9_max_7cf53 : List Cond := .code yJ9_max_7cf53 cJ9_max_7cf53 2 (some .int) :: ([])
def wsJ9_min_7cf53 : List Cond := .code yJ9_min_7cf53 cJ9_min_7cf53 2 (some .int) :: ([])
def wsL_addStone : List Cond := .codeWith yL_addStone cL_addStone 4 (some .int) [(0, 9, 12, 13), (0, 9, 15, 15)] :: ([.classLink RL 13 "java/lang/IllegalArgumentException", .classLink RL 15 "java/lang/IllegalStateException", .methodLink RL 7 yX1_addStone, .instanceMethod yX1_addStone, .selects RX1 yX1_addStone yX1_addStone, .initialized RX1, .code yX1_addStone cX1_addStone 2 (some .int), .classLink RX1 19 "java/lang/IllegalArgumentException", .initialized "java/lang/IllegalArgumentException", .classLink RX1 30 "java/lang/IllegalStateException", .initialized "java/lang/IllegalStateException", .fieldLink RX1 10 "GustMill" "now" "LGustMill$State;", .methodLink RX1 35 yX0_placeStone, .instanceMethod yX0_placeStone, .selects RX0 yX0_placeStone yX0_placeStone, .initialized RX0, .code yX0_placeStone cX0_placeStone 3 (some .int), .fieldLink RX0 44 "GustMill$State" "stoneCount" "I", .fieldLink RX0 15 "GustMill$State" "sizes" "[I", .fieldLink RX0 18 "GustMill$State" "sacksUpon" "[I"] ++ wsX10 ++ wsX00 ++ (vx_atS RX1 23 "java/lang/IllegalArgumentException" ["java/lang/RuntimeException", "java/lang/Exception"]).filter goodWord ++ (vx_atS RX1 34 "java/lang/IllegalStateException" ["java/lang/RuntimeException", "java/lang/Exception"]).filter goodWord)
def wsL_setWind : List Cond := .codeWith yL_setWind cL_setWind 5 (some .int) [(0, 10, 13, 21), (0, 10, 17, 13)] :: ([.classLink RL 21 "java/lang/IndexOutOfBoundsException", .classLink RL 13 "java/lang/IllegalArgumentException", .methodLink RL 17 yX1_setWind, .instanceMethod yX1_setWind, .selects RX1 yX1_setWind yX1_setWind, .initialized RX1, .code yX1_setWind cX1_setWind 4 (some .int), .classLink RX1 39 "java/lang/IndexOutOfBoundsException", .initialized "java/lang/IndexOutOfBoundsException", .classLink RX1 19 "java/lang/IllegalArgumentException", .initialized "java/lang/IllegalArgumentException", .fieldLink RX1 10 "GustMill" "now" "LGustMill$State;"] ++ wsX10 ++ wsX00 ++ (vx_atS RX1 43 "java/lang/IndexOutOfBoundsException" ["java/lang/RuntimeException", "java/lang/Exception"]).filter goodWord ++ (vx_atS RX1 23 "java/lang/IllegalArgumentException" ["java/lang/RuntimeException", "java/lang/Exception"]).filter goodWord)
def wsL_setRule : List Cond := .codeWith yL_setRule cL_setRule 4 (some .int) [(0, 9, 12, 13)] :: ([.classLink RL 13 "java/lang/IllegalArgumentException", .methodLink RL 23 yX1_setRule, .instanceMethod yX1_setRule, .selects RX1 yX1_setRule yX1_setRule, .initialized RX1, .code yX1_setRule cX1_setRule 3 (some .int), .fieldLink RX1 10 "GustMill" "now" "LGustMill$State;", .methodLink RX1 50 yX1_requireRule, .static yX1_requireRule, .code yX1_requireRule cX1_requireRule 1 none, .classLink RX1 19 "java/lang/IllegalArgumentException", .initialized "java/lang/IllegalArgumentException"] ++ wsX10 ++ wsX00 ++ (vx_atS RX1 23 "java/lang/IllegalArgumentException" ["java/lang/RuntimeException", "java/lang/Exception"]).filter goodWord)
def wsL_bring_r1 : List Cond := [Cond.classLink RL 13 "java/lang/IllegalArgumentException", Cond.classLink RL 15 "java/lang/IllegalStateException", Cond.methodLink RL 26 yX1_bring, Cond.instanceMethod yX1_bring, Cond.selects RX1 yX1_bring yX1_bring, Cond.initialized RX1, Cond.code yX1_bring cX1_bring 4 (some .int), Cond.classLink RX1 30 "java/lang/IllegalStateException", Cond.initialized "java/lang/IllegalStateException", Cond.fieldLink RX1 10 "GustMill" "now" "LGustMill$State;", Cond.methodLink RX1 61 yX1_requireBaker, Cond.static yX1_requireBaker, Cond.code yX1_requireBaker cX1_requireBaker 1 none, Cond.classLink RX1 19 "java/lang/IllegalArgumentException", Cond.initialized "java/lang/IllegalArgumentException", Cond.methodLink RX1 64 yX1_requireGrain, Cond.static yX1_requireGrain, Cond.code yX1_requireGrain cX1_requireGrain 1 none, Cond.methodLink RX1 67 yX1_requireUntil, Cond.static yX1_requireUntil, Cond.code yX1_requireUntil cX1_requireUntil 1 none, Cond.methodLink RX1 75 yX0_storeSack, Cond.instanceMethod yX0_storeSack, Cond.selects RX0 yX0_storeSack yX0_storeSack]
def wsL_bring_r2 : List Cond := [Cond.initialized RX0, Cond.code yX0_storeSack cX0_storeSack 5 (some .int), Cond.fieldLink RX0 47 "GustMill$State" "sackCount" "I", Cond.fieldLink RX0 25 "GustMill$State" "bakers" "[I", Cond.fieldLink RX0 28 "GustMill$State" "lefts" "[I", Cond.fieldLink RX0 31 "GustMill$State" "untils" "[I", Cond.fieldLink RX0 34 "GustMill$State" "stonesUnder" "[I", Cond.fieldLink RX0 37 "GustMill$State" "groundHours" "[I"]
def wsL_bring : List Cond := .codeWith yL_bring cL_bring 6 (some .int) [(0, 12, 15, 13), (0, 12, 19, 15)] :: ((wsL_bring_r1 ++ wsL_bring_r2) ++ wsX10 ++ wsX00 ++ (vx_atS RX1 34 "java/lang/IllegalStateException" ["java/lang/RuntimeException", "java/lang/Exception"]).filter goodWord ++ (vx_atS RX1 23 "java/lang/IllegalArgumentException" ["java/lang/RuntimeException", "java/lang/Exception"]).filter goodWord)
def wsL_lift : List Cond := .codeWith yL_lift cL_lift 4 (some .int) [(0, 9, 12, 21), (0, 9, 15, 15)] :: ([.classLink RL 21 "java/lang/IndexOutOfBoundsException", .classLink RL 15 "java/lang/IllegalStateException", .methodLink RL 30 yX1_lift, .instanceMethod yX1_lift, .selects RX1 yX1_lift yX1_lift, .initialized RX1, .code yX1_lift cX1_lift 3 (some .int), .classLink RX1 30 "java/lang/IllegalStateException", .initialized "java/lang/IllegalStateException", .fieldLink RX1 10 "GustMill" "now" "LGustMill$State;", .methodLink RX1 79 yX1_requireSack, .instanceMethod yX1_requireSack, .selects RX1 yX1_requireSack yX1_requireSack, .code yX1_requireSack cX1_requireSack 2 none, .classLink RX1 39 "java/lang/IndexOutOfBoundsException", .initialized "java/lang/IndexOutOfBoundsException", .methodLink RX1 87 yX0_clearStone, .instanceMethod yX0_clearStone, .selects RX0 yX0_clearStone yX0_clearStone, .initialized RX0, .code yX0_clearStone cX0_clearStone 3 none, .fieldLink RX0 18 "GustMill$State" "sacksUpon" "[I", .fieldLink RX0 34 "GustMill$State" "stonesUnder" "[I"] ++ wsX10 ++ wsX00 ++ (vx_atS RX1 34 "java/lang/IllegalStateException" ["java/lang/RuntimeException", "java/lang/Exception"]).filter goodWord ++ (vx_atS RX1 43 "java/lang/IndexOutOfBoundsException" ["java/lang/RuntimeException", "java/lang/Exception"]).filter goodWord)
def wsL_setUntil : List Cond := .codeWith yL_setUntil cL_setUntil 5 (some .int) [(0, 10, 13, 21), (0, 10, 17, 13)] :: ([.classLink RL 21 "java/lang/IndexOutOfBoundsException", .classLink RL 13 "java/lang/IllegalArgumentException", .methodLink RL 33 yX1_setUntil, .instanceMethod yX1_setUntil, .selects RX1 yX1_setUntil yX1_setUntil, .initialized RX1, .code yX1_setUntil cX1_setUntil 4 (some .int), .fieldLink RX1 10 "GustMill" "now" "LGustMill$State;", .methodLink RX1 79 yX1_requireSack, .instanceMethod yX1_requireSack, .selects RX1 yX1_requireSack yX1_requireSack, .code yX1_requireSack cX1_requireSack 2 none, .classLink RX1 39 "java/lang/IndexOutOfBoundsException", .initialized "java/lang/IndexOutOfBoundsException", .methodLink RX1 67 yX1_requireUntil, .static yX1_requireUntil, .code yX1_requireUntil cX1_requireUntil 1 none, .classLink RX1 19 "java/lang/IllegalArgumentException", .initialized "java/lang/IllegalArgumentException"] ++ wsX10 ++ wsX00 ++ (vx_atS RX1 43 "java/lang/IndexOutOfBoundsException" ["java/lang/RuntimeException", "java/lang/Exception"]).filter goodWord ++ (vx_atS RX1 23 "java/lang/IllegalArgumentException" ["java/lang/RuntimeException", "java/lang/Exception"]).filter goodWord)
def wsL_pass_r1 : List Cond := [Cond.classLink RL 13 "java/lang/IllegalArgumentException", Cond.methodLink RL 36 yX1_pass, Cond.instanceMethod yX1_pass, Cond.selects RX1 yX1_pass yX1_pass, Cond.initialized RX1, Cond.code yX1_pass cX1_pass 2 (some .int), Cond.fieldLink RX1 10 "GustMill" "now" "LGustMill$State;", Cond.methodLink RX1 93 yX1_requireHours, Cond.static yX1_requireHours, Cond.code yX1_requireHours cX1_requireHours 1 none, Cond.classLink RX1 19 "java/lang/IllegalArgumentException", Cond.initialized "java/lang/IllegalArgumentException", Cond.methodLink RX1 96 yX0_run, Cond.instanceMethod yX0_run, Cond.selects RX0 yX0_run yX0_run, Cond.initialized RX0, Cond.code yX0_run cX0_run 5 (some .int), Cond.fieldLink RX0 40 "GustMill$State" "hour" "I", Cond.fieldLink RX0 50 "GustMill$State" "groundCount" "I", Cond.fieldLink RX0 47 "GustMill$State" "sackCount" "I", Cond.fieldLink RX0 59 "GustMill$State" "isTakingOff" "Z", Cond.methodLink RX0 67 yX0_takeOffUnwanted, Cond.instanceMethod yX0_takeOffUnwanted, Cond.selects RX0 yX0_takeOffUnwanted yX0_takeOffUnwanted]
def wsL_pass_r2 : List Cond := [Cond.code yX0_takeOffUnwanted cX0_takeOffUnwanted 3 none, Cond.fieldLink RX0 44 "GustMill$State" "stoneCount" "I", Cond.fieldLink RX0 18 "GustMill$State" "sacksUpon" "[I", Cond.methodLink RX0 80 yX0_countAhead, Cond.instanceMethod yX0_countAhead, Cond.selects RX0 yX0_countAhead yX0_countAhead, Cond.code yX0_countAhead cX0_countAhead 4 (some .int), Cond.methodLink RX0 101 yX0_isGround, Cond.instanceMethod yX0_isGround, Cond.selects RX0 yX0_isGround yX0_isGround, Cond.code yX0_isGround cX0_isGround 2 (some .boolean), Cond.fieldLink RX0 28 "GustMill$State" "lefts" "[I", Cond.methodLink RX0 108 yX0_isAhead, Cond.instanceMethod yX0_isAhead, Cond.selects RX0 yX0_isAhead yX0_isAhead, Cond.code yX0_isAhead cX0_isAhead 4 (some .boolean), Cond.fieldLink RX0 56 "GustMill$State" "rule" "I", Cond.fieldLink RX0 31 "GustMill$State" "untils" "[I", Cond.methodLink RX0 84 yX0_clearStone, Cond.instanceMethod yX0_clearStone, Cond.selects RX0 yX0_clearStone yX0_clearStone, Cond.code yX0_clearStone cX0_clearStone 3 none, Cond.fieldLink RX0 34 "GustMill$State" "stonesUnder" "[I", Cond.methodLink RX0 70 yX0_fillStones]
def wsL_pass_r3 : List Cond := [Cond.instanceMethod yX0_fillStones, Cond.selects RX0 yX0_fillStones yX0_fillStones, Cond.code yX0_fillStones cX0_fillStones 3 none, Cond.fieldLink RX0 21 "GustMill$State" "isFresh" "[Z", Cond.fieldLink RX0 53 "GustMill$State" "changeCount" "I", Cond.methodLink RX0 88 yX0_firstByRule, Cond.instanceMethod yX0_firstByRule, Cond.selects RX0 yX0_firstByRule yX0_firstByRule, Cond.code yX0_firstByRule cX0_firstByRule 5 (some .int), Cond.methodLink RX0 73 yX0_grind, Cond.instanceMethod yX0_grind, Cond.selects RX0 yX0_grind yX0_grind, Cond.code yX0_grind cX0_grind 7 (some .int), Cond.fieldLink RX0 15 "GustMill$State" "sizes" "[I", Cond.methodLink RX0 95 Lib.Math.min.name, Cond.static Lib.Math.min.name, Cond.initialized "java/lang/Math", Cond.code Lib.Math.min.name Lib.Math.min.code 2 (some .int), Cond.methodLink RX0 92 yX0_windOfHour, Cond.instanceMethod yX0_windOfHour, Cond.selects RX0 yX0_windOfHour yX0_windOfHour, Cond.code yX0_windOfHour cX0_windOfHour 1 (some .int), Cond.fieldLink RX0 9 "GustMill$State" "winds" "[I", Cond.methodLink RX0 105 yJ9_floorMod_7cf53]
def wsL_pass_r4 : List Cond := [Cond.static yJ9_floorMod_7cf53, Cond.initialized RJ9, Cond.code yJ9_floorMod_7cf53 cJ9_floorMod_7cf53 3 (some .int), Cond.methodLink RX0 77 yX0_finishSacks, Cond.instanceMethod yX0_finishSacks, Cond.selects RX0 yX0_finishSacks yX0_finishSacks, Cond.code yX0_finishSacks cX0_finishSacks 3 none, Cond.fieldLink RX0 37 "GustMill$State" "groundHours" "[I"]
def wsL_pass : List Cond := .codeWith yL_pass cL_pass 4 (some .int) [(0, 9, 12, 13)] :: ((wsL_pass_r1 ++ (wsL_pass_r2 ++ (wsL_pass_r3 ++ wsL_pass_r4))) ++ wsX10 ++ wsX00 ++ (vx_atS RX1 23 "java/lang/IllegalArgumentException" ["java/lang/RuntimeException", "java/lang/Exception"]).filter goodWord)
def wsL_sackOn : List Cond := .codeWith yL_sackOn cL_sackOn 4 (some .int) [(0, 9, 12, 21)] :: ([.classLink RL 21 "java/lang/IndexOutOfBoundsException", .methodLink RL 39 yX1_sackOn, .instanceMethod yX1_sackOn, .selects RX1 yX1_sackOn yX1_sackOn, .initialized RX1, .code yX1_sackOn cX1_sackOn 2 (some .int), .classLink RX1 39 "java/lang/IndexOutOfBoundsException", .initialized "java/lang/IndexOutOfBoundsException", .fieldLink RX1 10 "GustMill" "now" "LGustMill$State;"] ++ wsX10 ++ wsX00 ++ (vx_atS RX1 43 "java/lang/IndexOutOfBoundsException" ["java/lang/RuntimeException", "java/lang/Exception"]).filter goodWord)
def wsL_stoneOf : List Cond := .codeWith yL_stoneOf cL_stoneOf 4 (some .int) [(0, 9, 12, 21)] :: ([.classLink RL 21 "java/lang/IndexOutOfBoundsException", .methodLink RL 42 yX1_stoneOf, .instanceMethod yX1_stoneOf, .selects RX1 yX1_stoneOf yX1_stoneOf, .initialized RX1, .code yX1_stoneOf cX1_stoneOf 2 (some .int), .fieldLink RX1 10 "GustMill" "now" "LGustMill$State;", .methodLink RX1 79 yX1_requireSack, .instanceMethod yX1_requireSack, .selects RX1 yX1_requireSack yX1_requireSack, .code yX1_requireSack cX1_requireSack 2 none, .classLink RX1 39 "java/lang/IndexOutOfBoundsException", .initialized "java/lang/IndexOutOfBoundsException"] ++ wsX10 ++ wsX00 ++ (vx_atS RX1 43 "java/lang/IndexOutOfBoundsException" ["java/lang/RuntimeException", "java/lang/Exception"]).filter goodWord)
def wsL_leftOf : List Cond := .codeWith yL_leftOf cL_leftOf 4 (some .int) [(0, 9, 12, 21)] :: ([.classLink RL 21 "java/lang/IndexOutOfBoundsException", .methodLink RL 45 yX1_leftOf, .instanceMethod yX1_leftOf, .selects RX1 yX1_leftOf yX1_leftOf, .initialized RX1, .code yX1_leftOf cX1_leftOf 2 (some .int), .fieldLink RX1 10 "GustMill" "now" "LGustMill$State;", .methodLink RX1 79 yX1_requireSack, .instanceMethod yX1_requireSack, .selects RX1 yX1_requireSack yX1_requireSack, .code yX1_requireSack cX1_requireSack 2 none, .classLink RX1 39 "java/lang/IndexOutOfBoundsException", .initialized "java/lang/IndexOutOfBoundsException"] ++ wsX10 ++ wsX00 ++ (vx_atS RX1 43 "java/lang/IndexOutOfBoundsException" ["java/lang/RuntimeException", "java/lang/Exception"]).filter goodWord)
def wsL_untilOf : List Cond := .codeWith yL_untilOf cL_untilOf 4 (some .int) [(0, 9, 12, 21)] :: ([.classLink RL 21 "java/lang/IndexOutOfBoundsException", .methodLink RL 48 yX1_untilOf, .instanceMethod yX1_untilOf, .selects RX1 yX1_untilOf yX1_untilOf, .initialized RX1, .code yX1_untilOf cX1_untilOf 2 (some .int), .fieldLink RX1 10 "GustMill" "now" "LGustMill$State;", .methodLink RX1 79 yX1_requireSack, .instanceMethod yX1_requireSack, .selects RX1 yX1_requireSack yX1_requireSack, .code yX1_requireSack cX1_requireSack 2 none, .classLink RX1 39 "java/lang/IndexOutOfBoundsException", .initialized "java/lang/IndexOutOfBoundsException"] ++ wsX10 ++ wsX00 ++ (vx_atS RX1 43 "java/lang/IndexOutOfBoundsException" ["java/lang/RuntimeException", "java/lang/Exception"]).filter goodWord)
def wsL_groundAt : List Cond := .codeWith yL_groundAt cL_groundAt 4 (some .int) [(0, 9, 12, 21)] :: ([.classLink RL 21 "java/lang/IndexOutOfBoundsException", .methodLink RL 51 yX1_groundAt, .instanceMethod yX1_groundAt, .selects RX1 yX1_groundAt yX1_groundAt, .initialized RX1, .code yX1_groundAt cX1_groundAt 2 (some .int), .fieldLink RX1 10 "GustMill" "now" "LGustMill$State;", .methodLink RX1 79 yX1_requireSack, .instanceMethod yX1_requireSack, .selects RX1 yX1_requireSack yX1_requireSack, .code yX1_requireSack cX1_requireSack 2 none, .classLink RX1 39 "java/lang/IndexOutOfBoundsException", .initialized "java/lang/IndexOutOfBoundsException"] ++ wsX10 ++ wsX00 ++ (vx_atS RX1 43 "java/lang/IndexOutOfBoundsException" ["java/lang/RuntimeException", "java/lang/Exception"]).filter goodWord)
def wsL_placeOf_r1 : List Cond := [Cond.classLink RL 21 "java/lang/IndexOutOfBoundsException", Cond.methodLink RL 54 yX1_placeOf, Cond.instanceMethod yX1_placeOf, Cond.selects RX1 yX1_placeOf yX1_placeOf, Cond.initialized RX1, Cond.code yX1_placeOf cX1_placeOf 2 (some .int), Cond.fieldLink RX1 10 "GustMill" "now" "LGustMill$State;", Cond.methodLink RX1 79 yX1_requireSack, Cond.instanceMethod yX1_requireSack, Cond.selects RX1 yX1_requireSack yX1_requireSack, Cond.code yX1_requireSack cX1_requireSack 2 none, Cond.classLink RX1 39 "java/lang/IndexOutOfBoundsException", Cond.initialized "java/lang/IndexOutOfBoundsException", Cond.methodLink RX1 127 yX0_isGround, Cond.instanceMethod yX0_isGround, Cond.selects RX0 yX0_isGround yX0_isGround, Cond.initialized RX0, Cond.code yX0_isGround cX0_isGround 2 (some .boolean), Cond.fieldLink RX0 28 "GustMill$State" "lefts" "[I", Cond.methodLink RX1 131 yX0_countAhead, Cond.instanceMethod yX0_countAhead, Cond.selects RX0 yX0_countAhead yX0_countAhead, Cond.code yX0_countAhead cX0_countAhead 4 (some .int), Cond.fieldLink RX0 47 "GustMill$State" "sackCount" "I"]
def wsL_placeOf_r2 : List Cond := [Cond.methodLink RX0 101 yX0_isGround, Cond.methodLink RX0 108 yX0_isAhead, Cond.instanceMethod yX0_isAhead, Cond.selects RX0 yX0_isAhead yX0_isAhead, Cond.code yX0_isAhead cX0_isAhead 4 (some .boolean), Cond.fieldLink RX0 56 "GustMill$State" "rule" "I", Cond.fieldLink RX0 31 "GustMill$State" "untils" "[I"]
def wsL_placeOf : List Cond := .codeWith yL_placeOf cL_placeOf 4 (some .int) [(0, 9, 12, 21)] :: ((wsL_placeOf_r1 ++ wsL_placeOf_r2) ++ wsX10 ++ wsX00 ++ (vx_atS RX1 43 "java/lang/IndexOutOfBoundsException" ["java/lang/RuntimeException", "java/lang/Exception"]).filter goodWord)
def wsL_leftFor : List Cond := .codeWith yL_leftFor cL_leftFor 4 (some .int) [(0, 9, 12, 13)] :: ([.classLink RL 13 "java/lang/IllegalArgumentException", .methodLink RL 57 yX1_leftFor, .instanceMethod yX1_leftFor, .selects RX1 yX1_leftFor yX1_leftFor, .initialized RX1, .code yX1_leftFor cX1_leftFor 4 (some .int), .fieldLink RX1 10 "GustMill" "now" "LGustMill$State;", .methodLink RX1 61 yX1_requireBaker, .static yX1_requireBaker, .code yX1_requireBaker cX1_requireBaker 1 none, .classLink RX1 19 "java/lang/IllegalArgumentException", .initialized "java/lang/IllegalArgumentException"] ++ wsX10 ++ wsX00 ++ (vx_atS RX1 23 "java/lang/IllegalArgumentException" ["java/lang/RuntimeException", "java/lang/Exception"]).filter goodWord)
def wsL_willBeGroundAt_r1 : List Cond := [Cond.classLink RL 21 "java/lang/IndexOutOfBoundsException", Cond.methodLink RL 60 yX1_willBeGroundAt, Cond.instanceMethod yX1_willBeGroundAt, Cond.selects RX1 yX1_willBeGroundAt yX1_willBeGroundAt, Cond.initialized RX1, Cond.code yX1_willBeGroundAt cX1_willBeGroundAt 2 (some .int), Cond.fieldLink RX1 16 "GustMill" "trial" "LGustMill$State;", Cond.methodLink RX1 79 yX1_requireSack, Cond.instanceMethod yX1_requireSack, Cond.selects RX1 yX1_requireSack yX1_requireSack, Cond.code yX1_requireSack cX1_requireSack 2 none, Cond.classLink RX1 39 "java/lang/IndexOutOfBoundsException", Cond.initialized "java/lang/IndexOutOfBoundsException", Cond.fieldLink RX1 10 "GustMill" "now" "LGustMill$State;", Cond.methodLink RX1 140 yX1_lookAhead, Cond.instanceMethod yX1_lookAhead, Cond.selects RX1 yX1_lookAhead yX1_lookAhead, Cond.code yX1_lookAhead cX1_lookAhead 1 none, Cond.methodLink RX1 143 yX0_become, Cond.instanceMethod yX0_become, Cond.selects RX0 yX0_become yX0_become, Cond.initialized RX0, Cond.code yX0_become cX0_become 2 none, Cond.fieldLink RX0 9 "GustMill$State" "winds" "[I"]
def wsL_willBeGroundAt_r2 : List Cond := [Cond.fieldLink RX0 15 "GustMill$State" "sizes" "[I", Cond.fieldLink RX0 18 "GustMill$State" "sacksUpon" "[I", Cond.fieldLink RX0 25 "GustMill$State" "bakers" "[I", Cond.fieldLink RX0 28 "GustMill$State" "lefts" "[I", Cond.fieldLink RX0 31 "GustMill$State" "untils" "[I", Cond.fieldLink RX0 34 "GustMill$State" "stonesUnder" "[I", Cond.fieldLink RX0 37 "GustMill$State" "groundHours" "[I", Cond.fieldLink RX0 40 "GustMill$State" "hour" "I", Cond.fieldLink RX0 44 "GustMill$State" "stoneCount" "I", Cond.fieldLink RX0 47 "GustMill$State" "sackCount" "I", Cond.fieldLink RX0 50 "GustMill$State" "groundCount" "I", Cond.fieldLink RX0 53 "GustMill$State" "changeCount" "I", Cond.fieldLink RX0 56 "GustMill$State" "rule" "I", Cond.fieldLink RX0 59 "GustMill$State" "isTakingOff" "Z", Cond.methodLink RX0 63 yX0_copyRow, Cond.static yX0_copyRow, Cond.code yX0_copyRow cX0_copyRow 3 none, Cond.methodLink RX1 96 yX0_run, Cond.instanceMethod yX0_run, Cond.selects RX0 yX0_run yX0_run, Cond.code yX0_run cX0_run 5 (some .int), Cond.methodLink RX0 67 yX0_takeOffUnwanted, Cond.instanceMethod yX0_takeOffUnwanted, Cond.selects RX0 yX0_takeOffUnwanted yX0_takeOffUnwanted]
def wsL_willBeGroundAt_r3 : List Cond := [Cond.code yX0_takeOffUnwanted cX0_takeOffUnwanted 3 none, Cond.methodLink RX0 80 yX0_countAhead, Cond.instanceMethod yX0_countAhead, Cond.selects RX0 yX0_countAhead yX0_countAhead, Cond.code yX0_countAhead cX0_countAhead 4 (some .int), Cond.methodLink RX0 101 yX0_isGround, Cond.instanceMethod yX0_isGround, Cond.selects RX0 yX0_isGround yX0_isGround, Cond.code yX0_isGround cX0_isGround 2 (some .boolean), Cond.methodLink RX0 108 yX0_isAhead, Cond.instanceMethod yX0_isAhead, Cond.selects RX0 yX0_isAhead yX0_isAhead, Cond.code yX0_isAhead cX0_isAhead 4 (some .boolean), Cond.methodLink RX0 84 yX0_clearStone, Cond.instanceMethod yX0_clearStone, Cond.selects RX0 yX0_clearStone yX0_clearStone, Cond.code yX0_clearStone cX0_clearStone 3 none, Cond.methodLink RX0 70 yX0_fillStones, Cond.instanceMethod yX0_fillStones, Cond.selects RX0 yX0_fillStones yX0_fillStones, Cond.code yX0_fillStones cX0_fillStones 3 none, Cond.fieldLink RX0 21 "GustMill$State" "isFresh" "[Z", Cond.methodLink RX0 88 yX0_firstByRule, Cond.instanceMethod yX0_firstByRule]
def wsL_willBeGroundAt_r4 : List Cond := [Cond.selects RX0 yX0_firstByRule yX0_firstByRule, Cond.code yX0_firstByRule cX0_firstByRule 5 (some .int), Cond.methodLink RX0 73 yX0_grind, Cond.instanceMethod yX0_grind, Cond.selects RX0 yX0_grind yX0_grind, Cond.code yX0_grind cX0_grind 7 (some .int), Cond.methodLink RX0 95 Lib.Math.min.name, Cond.static Lib.Math.min.name, Cond.initialized "java/lang/Math", Cond.code Lib.Math.min.name Lib.Math.min.code 2 (some .int), Cond.methodLink RX0 92 yX0_windOfHour, Cond.instanceMethod yX0_windOfHour, Cond.selects RX0 yX0_windOfHour yX0_windOfHour, Cond.code yX0_windOfHour cX0_windOfHour 1 (some .int), Cond.methodLink RX0 105 yJ9_floorMod_7cf53, Cond.static yJ9_floorMod_7cf53, Cond.initialized RJ9, Cond.code yJ9_floorMod_7cf53 cJ9_floorMod_7cf53 3 (some .int), Cond.methodLink RX0 77 yX0_finishSacks, Cond.instanceMethod yX0_finishSacks, Cond.selects RX0 yX0_finishSacks yX0_finishSacks, Cond.code yX0_finishSacks cX0_finishSacks 3 none]
def wsL_willBeGroundAt : List Cond := .codeWith yL_willBeGroundAt cL_willBeGroundAt 4 (some .int) [(0, 9, 12, 21)] :: ((wsL_willBeGroundAt_r1 ++ (wsL_willBeGroundAt_r2 ++ (wsL_willBeGroundAt_r3 ++ wsL_willBeGroundAt_r4))) ++ wsX10 ++ wsX00 ++ (vx_atS RX1 43 "java/lang/IndexOutOfBoundsException" ["java/lang/RuntimeException", "java/lang/Exception"]).filter goodWord)
def wsL_spareOf_r1 : List Cond := [Cond.classLink RL 21 "java/lang/IndexOutOfBoundsException", Cond.methodLink RL 63 yX1_spareOf, Cond.instanceMethod yX1_spareOf, Cond.selects RX1 yX1_spareOf yX1_spareOf, Cond.initialized RX1, Cond.code yX1_spareOf cX1_spareOf 2 (some .int), Cond.fieldLink RX1 16 "GustMill" "trial" "LGustMill$State;", Cond.methodLink RX1 79 yX1_requireSack, Cond.instanceMethod yX1_requireSack, Cond.selects RX1 yX1_requireSack yX1_requireSack, Cond.code yX1_requireSack cX1_requireSack 2 none, Cond.classLink RX1 39 "java/lang/IndexOutOfBoundsException", Cond.initialized "java/lang/IndexOutOfBoundsException", Cond.fieldLink RX1 10 "GustMill" "now" "LGustMill$State;", Cond.methodLink RX1 140 yX1_lookAhead, Cond.instanceMethod yX1_lookAhead, Cond.selects RX1 yX1_lookAhead yX1_lookAhead, Cond.code yX1_lookAhead cX1_lookAhead 1 none, Cond.methodLink RX1 143 yX0_become, Cond.instanceMethod yX0_become, Cond.selects RX0 yX0_become yX0_become, Cond.initialized RX0, Cond.code yX0_become cX0_become 2 none, Cond.fieldLink RX0 9 "GustMill$State" "winds" "[I"]
def wsL_spareOf_r2 : List Cond := [Cond.fieldLink RX0 15 "GustMill$State" "sizes" "[I", Cond.fieldLink RX0 18 "GustMill$State" "sacksUpon" "[I", Cond.fieldLink RX0 25 "GustMill$State" "bakers" "[I", Cond.fieldLink RX0 28 "GustMill$State" "lefts" "[I", Cond.fieldLink RX0 31 "GustMill$State" "untils" "[I", Cond.fieldLink RX0 34 "GustMill$State" "stonesUnder" "[I", Cond.fieldLink RX0 37 "GustMill$State" "groundHours" "[I", Cond.fieldLink RX0 40 "GustMill$State" "hour" "I", Cond.fieldLink RX0 44 "GustMill$State" "stoneCount" "I", Cond.fieldLink RX0 47 "GustMill$State" "sackCount" "I", Cond.fieldLink RX0 50 "GustMill$State" "groundCount" "I", Cond.fieldLink RX0 53 "GustMill$State" "changeCount" "I", Cond.fieldLink RX0 56 "GustMill$State" "rule" "I", Cond.fieldLink RX0 59 "GustMill$State" "isTakingOff" "Z", Cond.methodLink RX0 63 yX0_copyRow, Cond.static yX0_copyRow, Cond.code yX0_copyRow cX0_copyRow 3 none, Cond.methodLink RX1 96 yX0_run, Cond.instanceMethod yX0_run, Cond.selects RX0 yX0_run yX0_run, Cond.code yX0_run cX0_run 5 (some .int), Cond.methodLink RX0 67 yX0_takeOffUnwanted, Cond.instanceMethod yX0_takeOffUnwanted, Cond.selects RX0 yX0_takeOffUnwanted yX0_takeOffUnwanted]
def wsL_spareOf_r3 : List Cond := [Cond.code yX0_takeOffUnwanted cX0_takeOffUnwanted 3 none, Cond.methodLink RX0 80 yX0_countAhead, Cond.instanceMethod yX0_countAhead, Cond.selects RX0 yX0_countAhead yX0_countAhead, Cond.code yX0_countAhead cX0_countAhead 4 (some .int), Cond.methodLink RX0 101 yX0_isGround, Cond.instanceMethod yX0_isGround, Cond.selects RX0 yX0_isGround yX0_isGround, Cond.code yX0_isGround cX0_isGround 2 (some .boolean), Cond.methodLink RX0 108 yX0_isAhead, Cond.instanceMethod yX0_isAhead, Cond.selects RX0 yX0_isAhead yX0_isAhead, Cond.code yX0_isAhead cX0_isAhead 4 (some .boolean), Cond.methodLink RX0 84 yX0_clearStone, Cond.instanceMethod yX0_clearStone, Cond.selects RX0 yX0_clearStone yX0_clearStone, Cond.code yX0_clearStone cX0_clearStone 3 none, Cond.methodLink RX0 70 yX0_fillStones, Cond.instanceMethod yX0_fillStones, Cond.selects RX0 yX0_fillStones yX0_fillStones, Cond.code yX0_fillStones cX0_fillStones 3 none, Cond.fieldLink RX0 21 "GustMill$State" "isFresh" "[Z", Cond.methodLink RX0 88 yX0_firstByRule, Cond.instanceMethod yX0_firstByRule]
def wsL_spareOf_r4 : List Cond := [Cond.selects RX0 yX0_firstByRule yX0_firstByRule, Cond.code yX0_firstByRule cX0_firstByRule 5 (some .int), Cond.methodLink RX0 73 yX0_grind, Cond.instanceMethod yX0_grind, Cond.selects RX0 yX0_grind yX0_grind, Cond.code yX0_grind cX0_grind 7 (some .int), Cond.methodLink RX0 95 Lib.Math.min.name, Cond.static Lib.Math.min.name, Cond.initialized "java/lang/Math", Cond.code Lib.Math.min.name Lib.Math.min.code 2 (some .int), Cond.methodLink RX0 92 yX0_windOfHour, Cond.instanceMethod yX0_windOfHour, Cond.selects RX0 yX0_windOfHour yX0_windOfHour, Cond.code yX0_windOfHour cX0_windOfHour 1 (some .int), Cond.methodLink RX0 105 yJ9_floorMod_7cf53, Cond.static yJ9_floorMod_7cf53, Cond.initialized RJ9, Cond.code yJ9_floorMod_7cf53 cJ9_floorMod_7cf53 3 (some .int), Cond.methodLink RX0 77 yX0_finishSacks, Cond.instanceMethod yX0_finishSacks, Cond.selects RX0 yX0_finishSacks yX0_finishSacks, Cond.code yX0_finishSacks cX0_finishSacks 3 none, Cond.methodLink RX1 127 yX0_isGround]
def wsL_spareOf : List Cond := .codeWith yL_spareOf cL_spareOf 4 (some .int) [(0, 9, 12, 21)] :: ((wsL_spareOf_r1 ++ (wsL_spareOf_r2 ++ (wsL_spareOf_r3 ++ wsL_spareOf_r4))) ++ wsX10 ++ wsX00 ++ (vx_atS RX1 43 "java/lang/IndexOutOfBoundsException" ["java/lang/RuntimeException", "java/lang/Exception"]).filter goodWord)
def wsL_lateWith_r1 : List Cond := [Cond.classLink RL 13 "java/lang/IllegalArgumentException", Cond.methodLink RL 66 yX1_lateWith, Cond.instanceMethod yX1_lateWith, Cond.selects RX1 yX1_lateWith yX1_lateWith, Cond.initialized RX1, Cond.code yX1_lateWith cX1_lateWith 3 (some .int), Cond.fieldLink RX1 16 "GustMill" "trial" "LGustMill$State;", Cond.fieldLink RX1 10 "GustMill" "now" "LGustMill$State;", Cond.methodLink RX1 50 yX1_requireRule, Cond.static yX1_requireRule, Cond.code yX1_requireRule cX1_requireRule 1 none, Cond.classLink RX1 19 "java/lang/IllegalArgumentException", Cond.initialized "java/lang/IllegalArgumentException", Cond.methodLink RX1 143 yX0_become, Cond.instanceMethod yX0_become, Cond.selects RX0 yX0_become yX0_become, Cond.initialized RX0, Cond.code yX0_become cX0_become 2 none, Cond.fieldLink RX0 9 "GustMill$State" "winds" "[I", Cond.fieldLink RX0 15 "GustMill$State" "sizes" "[I", Cond.fieldLink RX0 18 "GustMill$State" "sacksUpon" "[I", Cond.fieldLink RX0 25 "GustMill$State" "bakers" "[I", Cond.fieldLink RX0 28 "GustMill$State" "lefts" "[I", Cond.fieldLink RX0 31 "GustMill$State" "untils" "[I"]
def wsL_lateWith_r2 : List Cond := [Cond.fieldLink RX0 34 "GustMill$State" "stonesUnder" "[I", Cond.fieldLink RX0 37 "GustMill$State" "groundHours" "[I", Cond.fieldLink RX0 40 "GustMill$State" "hour" "I", Cond.fieldLink RX0 44 "GustMill$State" "stoneCount" "I", Cond.fieldLink RX0 47 "GustMill$State" "sackCount" "I", Cond.fieldLink RX0 50 "GustMill$State" "groundCount" "I", Cond.fieldLink RX0 53 "GustMill$State" "changeCount" "I", Cond.fieldLink RX0 56 "GustMill$State" "rule" "I", Cond.fieldLink RX0 59 "GustMill$State" "isTakingOff" "Z", Cond.methodLink RX0 63 yX0_copyRow, Cond.static yX0_copyRow, Cond.code yX0_copyRow cX0_copyRow 3 none, Cond.methodLink RX1 96 yX0_run, Cond.instanceMethod yX0_run, Cond.selects RX0 yX0_run yX0_run, Cond.code yX0_run cX0_run 5 (some .int), Cond.methodLink RX0 67 yX0_takeOffUnwanted, Cond.instanceMethod yX0_takeOffUnwanted, Cond.selects RX0 yX0_takeOffUnwanted yX0_takeOffUnwanted, Cond.code yX0_takeOffUnwanted cX0_takeOffUnwanted 3 none, Cond.methodLink RX0 80 yX0_countAhead, Cond.instanceMethod yX0_countAhead, Cond.selects RX0 yX0_countAhead yX0_countAhead, Cond.code yX0_countAhead cX0_countAhead 4 (some .int)]
def wsL_lateWith_r3 : List Cond := [Cond.methodLink RX0 101 yX0_isGround, Cond.instanceMethod yX0_isGround, Cond.selects RX0 yX0_isGround yX0_isGround, Cond.code yX0_isGround cX0_isGround 2 (some .boolean), Cond.methodLink RX0 108 yX0_isAhead, Cond.instanceMethod yX0_isAhead, Cond.selects RX0 yX0_isAhead yX0_isAhead, Cond.code yX0_isAhead cX0_isAhead 4 (some .boolean), Cond.methodLink RX0 84 yX0_clearStone, Cond.instanceMethod yX0_clearStone, Cond.selects RX0 yX0_clearStone yX0_clearStone, Cond.code yX0_clearStone cX0_clearStone 3 none, Cond.methodLink RX0 70 yX0_fillStones, Cond.instanceMethod yX0_fillStones, Cond.selects RX0 yX0_fillStones yX0_fillStones, Cond.code yX0_fillStones cX0_fillStones 3 none, Cond.fieldLink RX0 21 "GustMill$State" "isFresh" "[Z", Cond.methodLink RX0 88 yX0_firstByRule, Cond.instanceMethod yX0_firstByRule, Cond.selects RX0 yX0_firstByRule yX0_firstByRule, Cond.code yX0_firstByRule cX0_firstByRule 5 (some .int), Cond.methodLink RX0 73 yX0_grind, Cond.instanceMethod yX0_grind, Cond.selects RX0 yX0_grind yX0_grind]
def wsL_lateWith_r4 : List Cond := [Cond.code yX0_grind cX0_grind 7 (some .int), Cond.methodLink RX0 95 Lib.Math.min.name, Cond.static Lib.Math.min.name, Cond.initialized "java/lang/Math", Cond.code Lib.Math.min.name Lib.Math.min.code 2 (some .int), Cond.methodLink RX0 92 yX0_windOfHour, Cond.instanceMethod yX0_windOfHour, Cond.selects RX0 yX0_windOfHour yX0_windOfHour, Cond.code yX0_windOfHour cX0_windOfHour 1 (some .int), Cond.methodLink RX0 105 yJ9_floorMod_7cf53, Cond.static yJ9_floorMod_7cf53, Cond.initialized RJ9, Cond.code yJ9_floorMod_7cf53 cJ9_floorMod_7cf53 3 (some .int), Cond.methodLink RX0 77 yX0_finishSacks, Cond.instanceMethod yX0_finishSacks, Cond.selects RX0 yX0_finishSacks yX0_finishSacks, Cond.code yX0_finishSacks cX0_finishSacks 3 none, Cond.methodLink RX1 137 yX0_hoursLate, Cond.instanceMethod yX0_hoursLate, Cond.selects RX0 yX0_hoursLate yX0_hoursLate, Cond.code yX0_hoursLate cX0_hoursLate 3 (some .int), Cond.methodLink RX0 112 Lib.Math.max.name, Cond.static Lib.Math.max.name, Cond.code Lib.Math.max.name Lib.Math.max.code 2 (some .int)]
def wsL_lateWith : List Cond := .codeWith yL_lateWith cL_lateWith 5 (some .int) [(0, 10, 13, 13)] :: ((wsL_lateWith_r1 ++ (wsL_lateWith_r2 ++ (wsL_lateWith_r3 ++ wsL_lateWith_r4))) ++ wsX10 ++ wsX00 ++ (vx_atS RX1 23 "java/lang/IllegalArgumentException" ["java/lang/RuntimeException", "java/lang/Exception"]).filter goodWord)
def wsL_wouldBeInTime_r1 : List Cond := [Cond.classLink RL 13 "java/lang/IllegalArgumentException", Cond.methodLink RL 70 yX1_wouldBeInTime, Cond.instanceMethod yX1_wouldBeInTime, Cond.selects RX1 yX1_wouldBeInTime yX1_wouldBeInTime, Cond.initialized RX1, Cond.code yX1_wouldBeInTime cX1_wouldBeInTime 4 (some .boolean), Cond.fieldLink RX1 10 "GustMill" "now" "LGustMill$State;", Cond.fieldLink RX1 16 "GustMill" "trial" "LGustMill$State;", Cond.methodLink RX1 64 yX1_requireGrain, Cond.static yX1_requireGrain, Cond.code yX1_requireGrain cX1_requireGrain 1 none, Cond.classLink RX1 19 "java/lang/IllegalArgumentException", Cond.initialized "java/lang/IllegalArgumentException", Cond.methodLink RX1 67 yX1_requireUntil, Cond.static yX1_requireUntil, Cond.code yX1_requireUntil cX1_requireUntil 1 none, Cond.methodLink RX1 143 yX0_become, Cond.instanceMethod yX0_become, Cond.selects RX0 yX0_become yX0_become, Cond.initialized RX0, Cond.code yX0_become cX0_become 2 none, Cond.fieldLink RX0 9 "GustMill$State" "winds" "[I", Cond.fieldLink RX0 15 "GustMill$State" "sizes" "[I", Cond.fieldLink RX0 18 "GustMill$State" "sacksUpon" "[I"]
def wsL_wouldBeInTime_r2 : List Cond := [Cond.fieldLink RX0 25 "GustMill$State" "bakers" "[I", Cond.fieldLink RX0 28 "GustMill$State" "lefts" "[I", Cond.fieldLink RX0 31 "GustMill$State" "untils" "[I", Cond.fieldLink RX0 34 "GustMill$State" "stonesUnder" "[I", Cond.fieldLink RX0 37 "GustMill$State" "groundHours" "[I", Cond.fieldLink RX0 40 "GustMill$State" "hour" "I", Cond.fieldLink RX0 44 "GustMill$State" "stoneCount" "I", Cond.fieldLink RX0 47 "GustMill$State" "sackCount" "I", Cond.fieldLink RX0 50 "GustMill$State" "groundCount" "I", Cond.fieldLink RX0 53 "GustMill$State" "changeCount" "I", Cond.fieldLink RX0 56 "GustMill$State" "rule" "I", Cond.fieldLink RX0 59 "GustMill$State" "isTakingOff" "Z", Cond.methodLink RX0 63 yX0_copyRow, Cond.static yX0_copyRow, Cond.code yX0_copyRow cX0_copyRow 3 none, Cond.methodLink RX1 75 yX0_storeSack, Cond.instanceMethod yX0_storeSack, Cond.selects RX0 yX0_storeSack yX0_storeSack, Cond.code yX0_storeSack cX0_storeSack 5 (some .int), Cond.methodLink RX1 96 yX0_run, Cond.instanceMethod yX0_run, Cond.selects RX0 yX0_run yX0_run, Cond.code yX0_run cX0_run 5 (some .int), Cond.methodLink RX0 67 yX0_takeOffUnwanted]
def wsL_wouldBeInTime_r3 : List Cond := [Cond.instanceMethod yX0_takeOffUnwanted, Cond.selects RX0 yX0_takeOffUnwanted yX0_takeOffUnwanted, Cond.code yX0_takeOffUnwanted cX0_takeOffUnwanted 3 none, Cond.methodLink RX0 80 yX0_countAhead, Cond.instanceMethod yX0_countAhead, Cond.selects RX0 yX0_countAhead yX0_countAhead, Cond.code yX0_countAhead cX0_countAhead 4 (some .int), Cond.methodLink RX0 101 yX0_isGround, Cond.instanceMethod yX0_isGround, Cond.selects RX0 yX0_isGround yX0_isGround, Cond.code yX0_isGround cX0_isGround 2 (some .boolean), Cond.methodLink RX0 108 yX0_isAhead, Cond.instanceMethod yX0_isAhead, Cond.selects RX0 yX0_isAhead yX0_isAhead, Cond.code yX0_isAhead cX0_isAhead 4 (some .boolean), Cond.methodLink RX0 84 yX0_clearStone, Cond.instanceMethod yX0_clearStone, Cond.selects RX0 yX0_clearStone yX0_clearStone, Cond.code yX0_clearStone cX0_clearStone 3 none, Cond.methodLink RX0 70 yX0_fillStones, Cond.instanceMethod yX0_fillStones, Cond.selects RX0 yX0_fillStones yX0_fillStones, Cond.code yX0_fillStones cX0_fillStones 3 none, Cond.fieldLink RX0 21 "GustMill$State" "isFresh" "[Z"]
def wsL_wouldBeInTime_r4 : List Cond := [Cond.methodLink RX0 88 yX0_firstByRule, Cond.instanceMethod yX0_firstByRule, Cond.selects RX0 yX0_firstByRule yX0_firstByRule, Cond.code yX0_firstByRule cX0_firstByRule 5 (some .int), Cond.methodLink RX0 73 yX0_grind, Cond.instanceMethod yX0_grind, Cond.selects RX0 yX0_grind yX0_grind, Cond.code yX0_grind cX0_grind 7 (some .int), Cond.methodLink RX0 95 Lib.Math.min.name, Cond.static Lib.Math.min.name, Cond.initialized "java/lang/Math", Cond.code Lib.Math.min.name Lib.Math.min.code 2 (some .int), Cond.methodLink RX0 92 yX0_windOfHour, Cond.instanceMethod yX0_windOfHour, Cond.selects RX0 yX0_windOfHour yX0_windOfHour, Cond.code yX0_windOfHour cX0_windOfHour 1 (some .int), Cond.methodLink RX0 105 yJ9_floorMod_7cf53, Cond.static yJ9_floorMod_7cf53, Cond.initialized RJ9, Cond.code yJ9_floorMod_7cf53 cJ9_floorMod_7cf53 3 (some .int), Cond.methodLink RX0 77 yX0_finishSacks, Cond.instanceMethod yX0_finishSacks, Cond.selects RX0 yX0_finishSacks yX0_finishSacks, Cond.code yX0_finishSacks cX0_finishSacks 3 none]
def wsL_wouldBeInTime_r5 : List Cond := [Cond.methodLink RX1 127 yX0_isGround]
def wsL_wouldBeInTime : List Cond := .codeWith yL_wouldBeInTime cL_wouldBeInTime 5 (some .int) [(0, 17, 20, 13)] :: ((wsL_wouldBeInTime_r1 ++ (wsL_wouldBeInTime_r2 ++ (wsL_wouldBeInTime_r3 ++ (wsL_wouldBeInTime_r4 ++ wsL_wouldBeInTime_r5)))) ++ wsX10 ++ wsX00 ++ (vx_atS RX1 23 "java/lang/IllegalArgumentException" ["java/lang/RuntimeException", "java/lang/Exception"]).filter goodWord)
def wsL_groundIn_r1 : List Cond := [Cond.classLink RL 13 "java/lang/IllegalArgumentException", Cond.methodLink RL 74 yX1_groundIn, Cond.instanceMethod yX1_groundIn, Cond.selects RX1 yX1_groundIn yX1_groundIn, Cond.initialized RX1, Cond.code yX1_groundIn cX1_groundIn 2 (some .int), Cond.fieldLink RX1 16 "GustMill" "trial" "LGustMill$State;", Cond.fieldLink RX1 10 "GustMill" "now" "LGustMill$State;", Cond.methodLink RX1 93 yX1_requireHours, Cond.static yX1_requireHours, Cond.code yX1_requireHours cX1_requireHours 1 none, Cond.classLink RX1 19 "java/lang/IllegalArgumentException", Cond.initialized "java/lang/IllegalArgumentException", Cond.methodLink RX1 143 yX0_become, Cond.instanceMethod yX0_become, Cond.selects RX0 yX0_become yX0_become, Cond.initialized RX0, Cond.code yX0_become cX0_become 2 none, Cond.fieldLink RX0 9 "GustMill$State" "winds" "[I", Cond.fieldLink RX0 15 "GustMill$State" "sizes" "[I", Cond.fieldLink RX0 18 "GustMill$State" "sacksUpon" "[I", Cond.fieldLink RX0 25 "GustMill$State" "bakers" "[I", Cond.fieldLink RX0 28 "GustMill$State" "lefts" "[I", Cond.fieldLink RX0 31 "GustMill$State" "untils" "[I"]
def wsL_groundIn_r2 : List Cond := [Cond.fieldLink RX0 34 "GustMill$State" "stonesUnder" "[I", Cond.fieldLink RX0 37 "GustMill$State" "groundHours" "[I", Cond.fieldLink RX0 40 "GustMill$State" "hour" "I", Cond.fieldLink RX0 44 "GustMill$State" "stoneCount" "I", Cond.fieldLink RX0 47 "GustMill$State" "sackCount" "I", Cond.fieldLink RX0 50 "GustMill$State" "groundCount" "I", Cond.fieldLink RX0 53 "GustMill$State" "changeCount" "I", Cond.fieldLink RX0 56 "GustMill$State" "rule" "I", Cond.fieldLink RX0 59 "GustMill$State" "isTakingOff" "Z", Cond.methodLink RX0 63 yX0_copyRow, Cond.static yX0_copyRow, Cond.code yX0_copyRow cX0_copyRow 3 none, Cond.methodLink RX1 96 yX0_run, Cond.instanceMethod yX0_run, Cond.selects RX0 yX0_run yX0_run, Cond.code yX0_run cX0_run 5 (some .int), Cond.methodLink RX0 67 yX0_takeOffUnwanted, Cond.instanceMethod yX0_takeOffUnwanted, Cond.selects RX0 yX0_takeOffUnwanted yX0_takeOffUnwanted, Cond.code yX0_takeOffUnwanted cX0_takeOffUnwanted 3 none, Cond.methodLink RX0 80 yX0_countAhead, Cond.instanceMethod yX0_countAhead, Cond.selects RX0 yX0_countAhead yX0_countAhead, Cond.code yX0_countAhead cX0_countAhead 4 (some .int)]
def wsL_groundIn_r3 : List Cond := [Cond.methodLink RX0 101 yX0_isGround, Cond.instanceMethod yX0_isGround, Cond.selects RX0 yX0_isGround yX0_isGround, Cond.code yX0_isGround cX0_isGround 2 (some .boolean), Cond.methodLink RX0 108 yX0_isAhead, Cond.instanceMethod yX0_isAhead, Cond.selects RX0 yX0_isAhead yX0_isAhead, Cond.code yX0_isAhead cX0_isAhead 4 (some .boolean), Cond.methodLink RX0 84 yX0_clearStone, Cond.instanceMethod yX0_clearStone, Cond.selects RX0 yX0_clearStone yX0_clearStone, Cond.code yX0_clearStone cX0_clearStone 3 none, Cond.methodLink RX0 70 yX0_fillStones, Cond.instanceMethod yX0_fillStones, Cond.selects RX0 yX0_fillStones yX0_fillStones, Cond.code yX0_fillStones cX0_fillStones 3 none, Cond.fieldLink RX0 21 "GustMill$State" "isFresh" "[Z", Cond.methodLink RX0 88 yX0_firstByRule, Cond.instanceMethod yX0_firstByRule, Cond.selects RX0 yX0_firstByRule yX0_firstByRule, Cond.code yX0_firstByRule cX0_firstByRule 5 (some .int), Cond.methodLink RX0 73 yX0_grind, Cond.instanceMethod yX0_grind, Cond.selects RX0 yX0_grind yX0_grind]
def wsL_groundIn_r4 : List Cond := [Cond.code yX0_grind cX0_grind 7 (some .int), Cond.methodLink RX0 95 Lib.Math.min.name, Cond.static Lib.Math.min.name, Cond.initialized "java/lang/Math", Cond.code Lib.Math.min.name Lib.Math.min.code 2 (some .int), Cond.methodLink RX0 92 yX0_windOfHour, Cond.instanceMethod yX0_windOfHour, Cond.selects RX0 yX0_windOfHour yX0_windOfHour, Cond.code yX0_windOfHour cX0_windOfHour 1 (some .int), Cond.methodLink RX0 105 yJ9_floorMod_7cf53, Cond.static yJ9_floorMod_7cf53, Cond.initialized RJ9, Cond.code yJ9_floorMod_7cf53 cJ9_floorMod_7cf53 3 (some .int), Cond.methodLink RX0 77 yX0_finishSacks, Cond.instanceMethod yX0_finishSacks, Cond.selects RX0 yX0_finishSacks yX0_finishSacks, Cond.code yX0_finishSacks cX0_finishSacks 3 none]
def wsL_groundIn : List Cond := .codeWith yL_groundIn cL_groundIn 4 (some .int) [(0, 9, 12, 13)] :: ((wsL_groundIn_r1 ++ (wsL_groundIn_r2 ++ (wsL_groundIn_r3 ++ wsL_groundIn_r4))) ++ wsX10 ++ wsX00 ++ (vx_atS RX1 23 "java/lang/IllegalArgumentException" ["java/lang/RuntimeException", "java/lang/Exception"]).filter goodWord)
def wsL_law0_r1 : List Cond := [Cond.classLink RL 8 RX1, Cond.instantiable RX1 2, Cond.initialized RX1, Cond.classLink RL 78 RX2, Cond.instantiable RX2 12, Cond.initialized RX2, Cond.arrayClass .long, Cond.methodLink RL 77 yX1_init, Cond.instanceMethod yX1_init, Cond.code yX1_init cX1_init 1 none, Cond.methodLink RX1 1 objectInit, Cond.instanceMethod objectInit, Cond.code objectInit ⟨#[0xb1]⟩ 1 none, Cond.classLink RX1 7 RX0, Cond.instantiable RX0 16, Cond.initialized RX0, Cond.fieldLink RX1 10 "GustMill" "now" "LGustMill$State;", Cond.fieldLink RX1 16 "GustMill" "trial" "LGustMill$State;", Cond.methodLink RX1 9 yX0_init, Cond.instanceMethod yX0_init, Cond.code yX0_init cX0_init 2 none, Cond.methodLink RX0 3 objectInit, Cond.arrayClass .int, Cond.fieldLink RX0 9 "GustMill$State" "winds" "[I"]
def wsL_law0_r2 : List Cond := [Cond.fieldLink RX0 15 "GustMill$State" "sizes" "[I", Cond.fieldLink RX0 18 "GustMill$State" "sacksUpon" "[I", Cond.arrayClass .boolean, Cond.fieldLink RX0 21 "GustMill$State" "isFresh" "[Z", Cond.fieldLink RX0 25 "GustMill$State" "bakers" "[I", Cond.fieldLink RX0 28 "GustMill$State" "lefts" "[I", Cond.fieldLink RX0 31 "GustMill$State" "untils" "[I", Cond.fieldLink RX0 34 "GustMill$State" "stonesUnder" "[I", Cond.fieldLink RX0 37 "GustMill$State" "groundHours" "[I", Cond.fieldLink RX0 40 "GustMill$State" "hour" "I", Cond.fieldLink RX0 44 "GustMill$State" "stoneCount" "I", Cond.fieldLink RX0 47 "GustMill$State" "sackCount" "I", Cond.fieldLink RX0 50 "GustMill$State" "groundCount" "I", Cond.fieldLink RX0 53 "GustMill$State" "changeCount" "I", Cond.fieldLink RX0 56 "GustMill$State" "rule" "I", Cond.fieldLink RX0 59 "GustMill$State" "isTakingOff" "Z", Cond.methodLink RL 80 yX2_init, Cond.instanceMethod yX2_init, Cond.code yX2_init cX2_init 2 none, Cond.methodLink RX2 1 objectInit, Cond.fieldLink RX2 9 "GustMillModel" "size" "[I", Cond.fieldLink RX2 13 "GustMillModel" "wind" "[I", Cond.fieldLink RX2 16 "GustMillModel" "baker" "[I", Cond.fieldLink RX2 19 "GustMillModel" "until" "[I"]
def wsL_law0_r3 : List Cond := [Cond.fieldLink RX2 22 "GustMillModel" "now" "[I", Cond.fieldLink RX2 25 "GustMillModel" "kept" "[I", Cond.fieldLink RX2 28 "GustMillModel" "fresh" "[I", Cond.methodLink RL 81 yL_addStone, Cond.static yL_addStone, Cond.initialized RL, Cond.codeWith yL_addStone cL_addStone 4 (some .int) [(0, 9, 12, 13), (0, 9, 15, 15)], Cond.classLink RL 13 "java/lang/IllegalArgumentException", Cond.classLink RL 15 "java/lang/IllegalStateException", Cond.methodLink RL 7 yX1_addStone, Cond.instanceMethod yX1_addStone, Cond.selects RX1 yX1_addStone yX1_addStone, Cond.code yX1_addStone cX1_addStone 2 (some .int), Cond.classLink RX1 19 "java/lang/IllegalArgumentException", Cond.initialized "java/lang/IllegalArgumentException", Cond.classLink RX1 30 "java/lang/IllegalStateException", Cond.initialized "java/lang/IllegalStateException", Cond.methodLink RX1 35 yX0_placeStone, Cond.instanceMethod yX0_placeStone, Cond.selects RX0 yX0_placeStone yX0_placeStone, Cond.code yX0_placeStone cX0_placeStone 3 (some .int), Cond.methodLink RL 86 yX2_addStone, Cond.instanceMethod yX2_addStone, Cond.selects RX2 yX2_addStone yX2_addStone]
def wsL_law0_r4 : List Cond := [Cond.code yX2_addStone cX2_addStone 2 (some .int), Cond.fieldLink RX2 31 "GustMillModel" "thrown" "I", Cond.fieldLink RX2 35 "GustMillModel" "stones" "I", Cond.methodLink RX2 38 yX2_isIn, Cond.static yX2_isIn, Cond.code yX2_isIn cX2_isIn 3 (some .boolean), Cond.methodLink RX2 85 yX2_fail, Cond.instanceMethod yX2_fail, Cond.selects RX2 yX2_fail yX2_fail, Cond.code yX2_fail cX2_fail 2 (some .int), Cond.methodLink RL 87 yX2_thrown, Cond.instanceMethod yX2_thrown, Cond.selects RX2 yX2_thrown yX2_thrown, Cond.code yX2_thrown cX2_thrown 1 (some .int), Cond.methodLink RL 91 yL_setWind, Cond.static yL_setWind, Cond.codeWith yL_setWind cL_setWind 5 (some .int) [(0, 10, 13, 21), (0, 10, 17, 13)], Cond.classLink RL 21 "java/lang/IndexOutOfBoundsException", Cond.methodLink RL 17 yX1_setWind, Cond.instanceMethod yX1_setWind, Cond.selects RX1 yX1_setWind yX1_setWind, Cond.code yX1_setWind cX1_setWind 4 (some .int), Cond.classLink RX1 39 "java/lang/IndexOutOfBoundsException", Cond.initialized "java/lang/IndexOutOfBoundsException"]
def wsL_law0_r5 : List Cond := [Cond.methodLink RL 94 yX2_setWind, Cond.instanceMethod yX2_setWind, Cond.selects RX2 yX2_setWind yX2_setWind, Cond.code yX2_setWind cX2_setWind 4 (some .int), Cond.methodLink RL 95 yL_setRule, Cond.static yL_setRule, Cond.codeWith yL_setRule cL_setRule 4 (some .int) [(0, 9, 12, 13)], Cond.methodLink RL 23 yX1_setRule, Cond.instanceMethod yX1_setRule, Cond.selects RX1 yX1_setRule yX1_setRule, Cond.code yX1_setRule cX1_setRule 3 (some .int), Cond.methodLink RX1 50 yX1_requireRule, Cond.static yX1_requireRule, Cond.code yX1_requireRule cX1_requireRule 1 none, Cond.methodLink RL 97 yX2_setRule, Cond.instanceMethod yX2_setRule, Cond.selects RX2 yX2_setRule yX2_setRule, Cond.code yX2_setRule cX2_setRule 3 (some .int), Cond.fieldLink RX2 51 "GustMillModel" "rule" "I", Cond.methodLink RL 98 yX1_setTakingOff, Cond.instanceMethod yX1_setTakingOff, Cond.selects RX1 yX1_setTakingOff yX1_setTakingOff, Cond.code yX1_setTakingOff cX1_setTakingOff 3 (some .boolean), Cond.methodLink RL 102 yX2_setTakingOff]
def wsL_law0_r6 : List Cond := [Cond.instanceMethod yX2_setTakingOff, Cond.selects RX2 yX2_setTakingOff yX2_setTakingOff, Cond.code yX2_setTakingOff cX2_setTakingOff 3 (some .boolean), Cond.fieldLink RX2 62 "GustMillModel" "isAllowed" "Z", Cond.methodLink RL 103 yL_bring, Cond.static yL_bring, Cond.codeWith yL_bring cL_bring 6 (some .int) [(0, 12, 15, 13), (0, 12, 19, 15)], Cond.methodLink RL 26 yX1_bring, Cond.instanceMethod yX1_bring, Cond.selects RX1 yX1_bring yX1_bring, Cond.code yX1_bring cX1_bring 4 (some .int), Cond.methodLink RX1 61 yX1_requireBaker, Cond.static yX1_requireBaker, Cond.code yX1_requireBaker cX1_requireBaker 1 none, Cond.methodLink RX1 64 yX1_requireGrain, Cond.static yX1_requireGrain, Cond.code yX1_requireGrain cX1_requireGrain 1 none, Cond.methodLink RX1 67 yX1_requireUntil, Cond.static yX1_requireUntil, Cond.code yX1_requireUntil cX1_requireUntil 1 none, Cond.methodLink RX1 75 yX0_storeSack, Cond.instanceMethod yX0_storeSack, Cond.selects RX0 yX0_storeSack yX0_storeSack, Cond.code yX0_storeSack cX0_storeSack 5 (some .int)]
def wsL_law0_r7 : List Cond := [Cond.methodLink RL 106 yX2_bring, Cond.instanceMethod yX2_bring, Cond.selects RX2 yX2_bring yX2_bring, Cond.code yX2_bring cX2_bring 4 (some .int), Cond.fieldLink RX2 42 "GustMillModel" "sacks" "I", Cond.methodLink RX2 88 yX2_put, Cond.instanceMethod yX2_put, Cond.selects RX2 yX2_put yX2_put, Cond.code yX2_put cX2_put 4 none, Cond.methodLink RL 107 yL_lift, Cond.static yL_lift, Cond.codeWith yL_lift cL_lift 4 (some .int) [(0, 9, 12, 21), (0, 9, 15, 15)], Cond.methodLink RL 30 yX1_lift, Cond.instanceMethod yX1_lift, Cond.selects RX1 yX1_lift yX1_lift, Cond.code yX1_lift cX1_lift 3 (some .int), Cond.methodLink RX1 79 yX1_requireSack, Cond.instanceMethod yX1_requireSack, Cond.selects RX1 yX1_requireSack yX1_requireSack, Cond.code yX1_requireSack cX1_requireSack 2 none, Cond.methodLink RX1 87 yX0_clearStone, Cond.instanceMethod yX0_clearStone, Cond.selects RX0 yX0_clearStone yX0_clearStone, Cond.code yX0_clearStone cX0_clearStone 3 none]
def wsL_law0_r8 : List Cond := [Cond.methodLink RL 109 yX2_lift, Cond.instanceMethod yX2_lift, Cond.selects RX2 yX2_lift yX2_lift, Cond.code yX2_lift cX2_lift 3 (some .int), Cond.methodLink RX2 92 yX2_isSack, Cond.instanceMethod yX2_isSack, Cond.selects RX2 yX2_isSack yX2_isSack, Cond.code yX2_isSack cX2_isSack 2 (some .boolean), Cond.methodLink RL 110 yL_setUntil, Cond.static yL_setUntil, Cond.codeWith yL_setUntil cL_setUntil 5 (some .int) [(0, 10, 13, 21), (0, 10, 17, 13)], Cond.methodLink RL 33 yX1_setUntil, Cond.instanceMethod yX1_setUntil, Cond.selects RX1 yX1_setUntil yX1_setUntil, Cond.code yX1_setUntil cX1_setUntil 4 (some .int), Cond.methodLink RL 112 yX2_setUntil, Cond.instanceMethod yX2_setUntil, Cond.selects RX2 yX2_setUntil yX2_setUntil, Cond.code yX2_setUntil cX2_setUntil 4 (some .int), Cond.methodLink RL 113 yL_pass, Cond.static yL_pass, Cond.codeWith yL_pass cL_pass 4 (some .int) [(0, 9, 12, 13)], Cond.methodLink RL 36 yX1_pass, Cond.instanceMethod yX1_pass]
def wsL_law0_r9 : List Cond := [Cond.selects RX1 yX1_pass yX1_pass, Cond.code yX1_pass cX1_pass 2 (some .int), Cond.methodLink RX1 93 yX1_requireHours, Cond.static yX1_requireHours, Cond.code yX1_requireHours cX1_requireHours 1 none, Cond.methodLink RX1 96 yX0_run, Cond.instanceMethod yX0_run, Cond.selects RX0 yX0_run yX0_run, Cond.code yX0_run cX0_run 5 (some .int), Cond.methodLink RX0 67 yX0_takeOffUnwanted, Cond.instanceMethod yX0_takeOffUnwanted, Cond.selects RX0 yX0_takeOffUnwanted yX0_takeOffUnwanted, Cond.code yX0_takeOffUnwanted cX0_takeOffUnwanted 3 none, Cond.methodLink RX0 80 yX0_countAhead, Cond.instanceMethod yX0_countAhead, Cond.selects RX0 yX0_countAhead yX0_countAhead, Cond.code yX0_countAhead cX0_countAhead 4 (some .int), Cond.methodLink RX0 101 yX0_isGround, Cond.instanceMethod yX0_isGround, Cond.selects RX0 yX0_isGround yX0_isGround, Cond.code yX0_isGround cX0_isGround 2 (some .boolean), Cond.methodLink RX0 108 yX0_isAhead, Cond.instanceMethod yX0_isAhead, Cond.selects RX0 yX0_isAhead yX0_isAhead]
def wsL_law0_r10 : List Cond := [Cond.code yX0_isAhead cX0_isAhead 4 (some .boolean), Cond.methodLink RX0 84 yX0_clearStone, Cond.methodLink RX0 70 yX0_fillStones, Cond.instanceMethod yX0_fillStones, Cond.selects RX0 yX0_fillStones yX0_fillStones, Cond.code yX0_fillStones cX0_fillStones 3 none, Cond.methodLink RX0 88 yX0_firstByRule, Cond.instanceMethod yX0_firstByRule, Cond.selects RX0 yX0_firstByRule yX0_firstByRule, Cond.code yX0_firstByRule cX0_firstByRule 5 (some .int), Cond.methodLink RX0 73 yX0_grind, Cond.instanceMethod yX0_grind, Cond.selects RX0 yX0_grind yX0_grind, Cond.code yX0_grind cX0_grind 7 (some .int), Cond.methodLink RX0 95 Lib.Math.min.name, Cond.static Lib.Math.min.name, Cond.initialized "java/lang/Math", Cond.code Lib.Math.min.name Lib.Math.min.code 2 (some .int), Cond.methodLink RX0 92 yX0_windOfHour, Cond.instanceMethod yX0_windOfHour, Cond.selects RX0 yX0_windOfHour yX0_windOfHour, Cond.code yX0_windOfHour cX0_windOfHour 1 (some .int), Cond.methodLink RX0 105 yJ9_floorMod_7cf53, Cond.static yJ9_floorMod_7cf53]
def wsL_law0_r11 : List Cond := [Cond.initialized RJ9, Cond.code yJ9_floorMod_7cf53 cJ9_floorMod_7cf53 3 (some .int), Cond.methodLink RX0 77 yX0_finishSacks, Cond.instanceMethod yX0_finishSacks, Cond.selects RX0 yX0_finishSacks yX0_finishSacks, Cond.code yX0_finishSacks cX0_finishSacks 3 none, Cond.methodLink RL 115 yX2_pass, Cond.instanceMethod yX2_pass, Cond.selects RX2 yX2_pass yX2_pass, Cond.code yX2_pass cX2_pass 3 (some .int), Cond.methodLink RX2 95 yX2_hoursOn, Cond.instanceMethod yX2_hoursOn, Cond.selects RX2 yX2_hoursOn yX2_hoursOn, Cond.code yX2_hoursOn cX2_hoursOn 3 none, Cond.methodLink RX2 82 yX2_hourOn, Cond.instanceMethod yX2_hourOn, Cond.selects RX2 yX2_hourOn yX2_hourOn, Cond.code yX2_hourOn cX2_hourOn 5 none, Cond.methodLink RX2 76 Lib.Math.min.name, Cond.methodLink RX2 66 yX2_ahead, Cond.instanceMethod yX2_ahead, Cond.selects RX2 yX2_ahead yX2_ahead, Cond.code yX2_ahead cX2_ahead 4 (some .int), Cond.methodLink RX2 54 yX2_isDone]
def wsL_law0_r12 : List Cond := [Cond.instanceMethod yX2_isDone, Cond.selects RX2 yX2_isDone yX2_isDone, Cond.code yX2_isDone cX2_isDone 2 (some .boolean), Cond.methodLink RX2 58 yX2_turn, Cond.instanceMethod yX2_turn, Cond.selects RX2 yX2_turn yX2_turn, Cond.code yX2_turn cX2_turn 2 (some .int), Cond.methodLink RX2 69 yX2_on, Cond.instanceMethod yX2_on, Cond.selects RX2 yX2_on yX2_on, Cond.code yX2_on cX2_on 3 (some .int), Cond.methodLink RX2 72 yX2_next, Cond.instanceMethod yX2_next, Cond.selects RX2 yX2_next yX2_next, Cond.code yX2_next cX2_next 4 (some .int), Cond.methodLink RL 116 yX1_hour, Cond.instanceMethod yX1_hour, Cond.selects RX1 yX1_hour yX1_hour, Cond.code yX1_hour cX1_hour 1 (some .int), Cond.methodLink RL 119 yX2_hour, Cond.instanceMethod yX2_hour, Cond.selects RX2 yX2_hour yX2_hour, Cond.code yX2_hour cX2_hour 1 (some .int), Cond.methodLink RX2 99 yX2_told]
def wsL_law0_r13 : List Cond := [Cond.instanceMethod yX2_told, Cond.selects RX2 yX2_told yX2_told, Cond.code yX2_told cX2_told 2 (some .int), Cond.methodLink RL 120 yX1_stones, Cond.instanceMethod yX1_stones, Cond.selects RX1 yX1_stones yX1_stones, Cond.code yX1_stones cX1_stones 1 (some .int), Cond.methodLink RL 123 yX2_stones, Cond.instanceMethod yX2_stones, Cond.selects RX2 yX2_stones yX2_stones, Cond.code yX2_stones cX2_stones 1 (some .int), Cond.methodLink RL 124 yX1_sacks, Cond.instanceMethod yX1_sacks, Cond.selects RX1 yX1_sacks yX1_sacks, Cond.code yX1_sacks cX1_sacks 1 (some .int), Cond.methodLink RL 127 yX2_sacks, Cond.instanceMethod yX2_sacks, Cond.selects RX2 yX2_sacks yX2_sacks, Cond.code yX2_sacks cX2_sacks 1 (some .int), Cond.methodLink RL 128 yX1_rule, Cond.instanceMethod yX1_rule, Cond.selects RX1 yX1_rule yX1_rule, Cond.code yX1_rule cX1_rule 1 (some .int), Cond.methodLink RL 131 yX2_rule]
def wsL_law0_r14 : List Cond := [Cond.instanceMethod yX2_rule, Cond.selects RX2 yX2_rule yX2_rule, Cond.code yX2_rule cX2_rule 1 (some .int), Cond.methodLink RL 132 yX1_wind, Cond.instanceMethod yX1_wind, Cond.selects RX1 yX1_wind yX1_wind, Cond.code yX1_wind cX1_wind 1 (some .int), Cond.methodLink RX1 102 yX0_windOfHour, Cond.methodLink RL 135 yX2_wind, Cond.instanceMethod yX2_wind, Cond.selects RX2 yX2_wind yX2_wind, Cond.code yX2_wind cX2_wind 1 (some .int), Cond.methodLink RL 136 yL_sackOn, Cond.static yL_sackOn, Cond.codeWith yL_sackOn cL_sackOn 4 (some .int) [(0, 9, 12, 21)], Cond.methodLink RL 39 yX1_sackOn, Cond.instanceMethod yX1_sackOn, Cond.selects RX1 yX1_sackOn yX1_sackOn, Cond.code yX1_sackOn cX1_sackOn 2 (some .int), Cond.methodLink RL 138 yX2_sackOn, Cond.instanceMethod yX2_sackOn, Cond.selects RX2 yX2_sackOn yX2_sackOn, Cond.code yX2_sackOn cX2_sackOn 2 (some .int), Cond.methodLink RX2 102 yX2_isStone]
def wsL_law0_r15 : List Cond := [Cond.instanceMethod yX2_isStone, Cond.selects RX2 yX2_isStone yX2_isStone, Cond.code yX2_isStone cX2_isStone 2 (some .boolean), Cond.methodLink RL 139 yL_stoneOf, Cond.static yL_stoneOf, Cond.codeWith yL_stoneOf cL_stoneOf 4 (some .int) [(0, 9, 12, 21)], Cond.methodLink RL 42 yX1_stoneOf, Cond.instanceMethod yX1_stoneOf, Cond.selects RX1 yX1_stoneOf yX1_stoneOf, Cond.code yX1_stoneOf cX1_stoneOf 2 (some .int), Cond.methodLink RL 141 yX2_stoneOf, Cond.instanceMethod yX2_stoneOf, Cond.selects RX2 yX2_stoneOf yX2_stoneOf, Cond.code yX2_stoneOf cX2_stoneOf 2 (some .int), Cond.methodLink RX2 105 yX2_of, Cond.instanceMethod yX2_of, Cond.selects RX2 yX2_of yX2_of, Cond.code yX2_of cX2_of 3 (some .int), Cond.methodLink RL 142 yL_leftOf, Cond.static yL_leftOf, Cond.codeWith yL_leftOf cL_leftOf 4 (some .int) [(0, 9, 12, 21)], Cond.methodLink RL 45 yX1_leftOf, Cond.instanceMethod yX1_leftOf, Cond.selects RX1 yX1_leftOf yX1_leftOf]
def wsL_law0_r16 : List Cond := [Cond.code yX1_leftOf cX1_leftOf 2 (some .int), Cond.methodLink RL 144 yX2_leftOf, Cond.instanceMethod yX2_leftOf, Cond.selects RX2 yX2_leftOf yX2_leftOf, Cond.code yX2_leftOf cX2_leftOf 2 (some .int), Cond.methodLink RL 145 yL_untilOf, Cond.static yL_untilOf, Cond.codeWith yL_untilOf cL_untilOf 4 (some .int) [(0, 9, 12, 21)], Cond.methodLink RL 48 yX1_untilOf, Cond.instanceMethod yX1_untilOf, Cond.selects RX1 yX1_untilOf yX1_untilOf, Cond.code yX1_untilOf cX1_untilOf 2 (some .int), Cond.methodLink RL 147 yX2_untilOf, Cond.instanceMethod yX2_untilOf, Cond.selects RX2 yX2_untilOf yX2_untilOf, Cond.code yX2_untilOf cX2_untilOf 2 (some .int), Cond.methodLink RL 148 yL_groundAt, Cond.static yL_groundAt, Cond.codeWith yL_groundAt cL_groundAt 4 (some .int) [(0, 9, 12, 21)], Cond.methodLink RL 51 yX1_groundAt, Cond.instanceMethod yX1_groundAt, Cond.selects RX1 yX1_groundAt yX1_groundAt, Cond.code yX1_groundAt cX1_groundAt 2 (some .int), Cond.methodLink RL 150 yX2_groundAt]
def wsL_law0_r17 : List Cond := [Cond.instanceMethod yX2_groundAt, Cond.selects RX2 yX2_groundAt yX2_groundAt, Cond.code yX2_groundAt cX2_groundAt 2 (some .int), Cond.methodLink RL 151 yX1_ground, Cond.instanceMethod yX1_ground, Cond.selects RX1 yX1_ground yX1_ground, Cond.code yX1_ground cX1_ground 1 (some .int), Cond.methodLink RL 154 yX2_ground, Cond.instanceMethod yX2_ground, Cond.selects RX2 yX2_ground yX2_ground, Cond.code yX2_ground cX2_ground 1 (some .int), Cond.methodLink RX2 108 yX2_done, Cond.instanceMethod yX2_done, Cond.selects RX2 yX2_done yX2_done, Cond.code yX2_done cX2_done 3 (some .int), Cond.methodLink RL 155 yX1_changes, Cond.instanceMethod yX1_changes, Cond.selects RX1 yX1_changes yX1_changes, Cond.code yX1_changes cX1_changes 1 (some .int), Cond.methodLink RL 158 yX2_changes, Cond.instanceMethod yX2_changes, Cond.selects RX2 yX2_changes yX2_changes, Cond.code yX2_changes cX2_changes 1 (some .int), Cond.methodLink RL 159 yX1_first]
def wsL_law0_r18 : List Cond := [Cond.instanceMethod yX1_first, Cond.selects RX1 yX1_first yX1_first, Cond.code yX1_first cX1_first 1 (some .int), Cond.methodLink RX1 123 yX0_firstByRule, Cond.methodLink RL 162 yX2_first, Cond.instanceMethod yX2_first, Cond.selects RX2 yX2_first yX2_first, Cond.code yX2_first cX2_first 1 (some .int), Cond.methodLink RL 163 yL_placeOf, Cond.static yL_placeOf, Cond.codeWith yL_placeOf cL_placeOf 4 (some .int) [(0, 9, 12, 21)], Cond.methodLink RL 54 yX1_placeOf, Cond.instanceMethod yX1_placeOf, Cond.selects RX1 yX1_placeOf yX1_placeOf, Cond.code yX1_placeOf cX1_placeOf 2 (some .int), Cond.methodLink RX1 127 yX0_isGround, Cond.methodLink RX1 131 yX0_countAhead, Cond.methodLink RL 165 yX2_placeOf, Cond.instanceMethod yX2_placeOf, Cond.selects RX2 yX2_placeOf yX2_placeOf, Cond.code yX2_placeOf cX2_placeOf 2 (some .int), Cond.methodLink RX2 112 yX2_place, Cond.instanceMethod yX2_place, Cond.selects RX2 yX2_place yX2_place]
def wsL_law0_r19 : List Cond := [Cond.code yX2_place cX2_place 2 (some .int), Cond.methodLink RL 166 yL_leftFor, Cond.static yL_leftFor, Cond.codeWith yL_leftFor cL_leftFor 4 (some .int) [(0, 9, 12, 13)], Cond.methodLink RL 57 yX1_leftFor, Cond.instanceMethod yX1_leftFor, Cond.selects RX1 yX1_leftFor yX1_leftFor, Cond.code yX1_leftFor cX1_leftFor 4 (some .int), Cond.methodLink RL 168 yX2_leftFor, Cond.instanceMethod yX2_leftFor, Cond.selects RX2 yX2_leftFor yX2_leftFor, Cond.code yX2_leftFor cX2_leftFor 2 (some .int), Cond.methodLink RX2 115 yX2_rest, Cond.instanceMethod yX2_rest, Cond.selects RX2 yX2_rest yX2_rest, Cond.code yX2_rest cX2_rest 4 (some .int), Cond.methodLink RL 169 yX1_late, Cond.instanceMethod yX1_late, Cond.selects RX1 yX1_late yX1_late, Cond.code yX1_late cX1_late 1 (some .int), Cond.methodLink RX1 137 yX0_hoursLate, Cond.instanceMethod yX0_hoursLate, Cond.selects RX0 yX0_hoursLate yX0_hoursLate, Cond.code yX0_hoursLate cX0_hoursLate 3 (some .int)]
def wsL_law0_r20 : List Cond := [Cond.methodLink RX0 112 Lib.Math.max.name, Cond.static Lib.Math.max.name, Cond.code Lib.Math.max.name Lib.Math.max.code 2 (some .int), Cond.methodLink RL 172 yX2_late, Cond.instanceMethod yX2_late, Cond.selects RX2 yX2_late yX2_late, Cond.code yX2_late cX2_late 1 (some .int), Cond.methodLink RX2 121 yX2_lost, Cond.instanceMethod yX2_lost, Cond.selects RX2 yX2_lost yX2_lost, Cond.code yX2_lost cX2_lost 4 (some .int), Cond.methodLink RX2 118 Lib.Math.max.name, Cond.methodLink RL 173 yL_willBeGroundAt, Cond.static yL_willBeGroundAt, Cond.codeWith yL_willBeGroundAt cL_willBeGroundAt 4 (some .int) [(0, 9, 12, 21)], Cond.methodLink RL 60 yX1_willBeGroundAt, Cond.instanceMethod yX1_willBeGroundAt, Cond.selects RX1 yX1_willBeGroundAt yX1_willBeGroundAt, Cond.code yX1_willBeGroundAt cX1_willBeGroundAt 2 (some .int), Cond.methodLink RX1 140 yX1_lookAhead, Cond.instanceMethod yX1_lookAhead, Cond.selects RX1 yX1_lookAhead yX1_lookAhead, Cond.code yX1_lookAhead cX1_lookAhead 1 none, Cond.methodLink RX1 143 yX0_become]
def wsL_law0_r21 : List Cond := [Cond.instanceMethod yX0_become, Cond.selects RX0 yX0_become yX0_become, Cond.code yX0_become cX0_become 2 none, Cond.methodLink RX0 63 yX0_copyRow, Cond.static yX0_copyRow, Cond.code yX0_copyRow cX0_copyRow 3 none, Cond.methodLink RL 175 yX2_willBeGroundAt, Cond.instanceMethod yX2_willBeGroundAt, Cond.selects RX2 yX2_willBeGroundAt yX2_willBeGroundAt, Cond.code yX2_willBeGroundAt cX2_willBeGroundAt 2 (some .int), Cond.methodLink RX2 130 yX2_groundThen, Cond.instanceMethod yX2_groundThen, Cond.selects RX2 yX2_groundThen yX2_groundThen, Cond.code yX2_groundThen cX2_groundThen 3 (some .int), Cond.methodLink RX2 124 yX2_keep, Cond.instanceMethod yX2_keep, Cond.selects RX2 yX2_keep yX2_keep, Cond.code yX2_keep cX2_keep 1 none, Cond.methodLink RX2 45 arraycopyName, Cond.native arraycopyName, Cond.static arraycopyName, Cond.initialized "java/lang/System", Cond.methodLink RX2 127 yX2_bringBack, Cond.instanceMethod yX2_bringBack]
def wsL_law0_r22 : List Cond := [Cond.selects RX2 yX2_bringBack yX2_bringBack, Cond.code yX2_bringBack cX2_bringBack 1 none, Cond.methodLink RL 176 yL_spareOf, Cond.static yL_spareOf, Cond.codeWith yL_spareOf cL_spareOf 4 (some .int) [(0, 9, 12, 21)], Cond.methodLink RL 63 yX1_spareOf, Cond.instanceMethod yX1_spareOf, Cond.selects RX1 yX1_spareOf yX1_spareOf, Cond.code yX1_spareOf cX1_spareOf 2 (some .int), Cond.methodLink RL 178 yX2_spareOf, Cond.instanceMethod yX2_spareOf, Cond.selects RX2 yX2_spareOf yX2_spareOf, Cond.code yX2_spareOf cX2_spareOf 3 (some .int), Cond.methodLink RL 179 yL_lateWith, Cond.static yL_lateWith, Cond.codeWith yL_lateWith cL_lateWith 5 (some .int) [(0, 10, 13, 13)], Cond.methodLink RL 66 yX1_lateWith, Cond.instanceMethod yX1_lateWith, Cond.selects RX1 yX1_lateWith yX1_lateWith, Cond.code yX1_lateWith cX1_lateWith 3 (some .int), Cond.methodLink RL 182 yX2_lateWith, Cond.instanceMethod yX2_lateWith, Cond.selects RX2 yX2_lateWith yX2_lateWith, Cond.code yX2_lateWith cX2_lateWith 3 (some .int)]
def wsL_law0_r23 : List Cond := [Cond.methodLink RX2 133 yX2_lostBy, Cond.instanceMethod yX2_lostBy, Cond.selects RX2 yX2_lostBy yX2_lostBy, Cond.code yX2_lostBy cX2_lostBy 6 (some .int), Cond.methodLink RL 183 yX1_bestRule, Cond.instanceMethod yX1_bestRule, Cond.selects RX1 yX1_bestRule yX1_bestRule, Cond.code yX1_bestRule cX1_bestRule 5 (some .int), Cond.methodLink RX1 147 yX1_lateWith, Cond.methodLink RL 186 yX2_bestRule, Cond.instanceMethod yX2_bestRule, Cond.selects RX2 yX2_bestRule yX2_bestRule, Cond.code yX2_bestRule cX2_bestRule 1 (some .int), Cond.methodLink RX2 137 yX2_best, Cond.instanceMethod yX2_best, Cond.selects RX2 yX2_best yX2_best, Cond.code yX2_best cX2_best 5 (some .int), Cond.methodLink RL 187 yL_wouldBeInTime, Cond.static yL_wouldBeInTime, Cond.codeWith yL_wouldBeInTime cL_wouldBeInTime 5 (some .int) [(0, 17, 20, 13)], Cond.methodLink RL 70 yX1_wouldBeInTime, Cond.instanceMethod yX1_wouldBeInTime, Cond.selects RX1 yX1_wouldBeInTime yX1_wouldBeInTime, Cond.code yX1_wouldBeInTime cX1_wouldBeInTime 4 (some .boolean)]
def wsL_law0_r24 : List Cond := [Cond.methodLink RL 189 yX2_wouldBeInTime, Cond.instanceMethod yX2_wouldBeInTime, Cond.selects RX2 yX2_wouldBeInTime yX2_wouldBeInTime, Cond.code yX2_wouldBeInTime cX2_wouldBeInTime 4 (some .boolean), Cond.methodLink RL 190 yL_groundIn, Cond.static yL_groundIn, Cond.codeWith yL_groundIn cL_groundIn 4 (some .int) [(0, 9, 12, 13)], Cond.methodLink RL 74 yX1_groundIn, Cond.instanceMethod yX1_groundIn, Cond.selects RX1 yX1_groundIn yX1_groundIn, Cond.code yX1_groundIn cX1_groundIn 2 (some .int), Cond.methodLink RL 192 yX2_groundIn, Cond.instanceMethod yX2_groundIn, Cond.selects RX2 yX2_groundIn yX2_groundIn, Cond.code yX2_groundIn cX2_groundIn 2 (some .int), Cond.methodLink RX2 140 yX2_milledIn, Cond.instanceMethod yX2_milledIn, Cond.selects RX2 yX2_milledIn yX2_milledIn, Cond.code yX2_milledIn cX2_milledIn 4 (some .int), Cond.methodLink RL 193 yX1_meanLeft, Cond.instanceMethod yX1_meanLeft, Cond.selects RX1 yX1_meanLeft yX1_meanLeft, Cond.code yX1_meanLeft cX1_meanLeft 4 (some .double), Cond.methodLink RL 197 yX2_meanLeft]
def wsL_law0_r25 : List Cond := [Cond.instanceMethod yX2_meanLeft, Cond.selects RX2 yX2_meanLeft yX2_meanLeft, Cond.code yX2_meanLeft cX2_meanLeft 3 (some .double), Cond.methodLink RL 198 yX1_digest, Cond.instanceMethod yX1_digest, Cond.selects RX1 yX1_digest yX1_digest, Cond.code yX1_digest cX1_digest 4 (some .long), Cond.constantLong RX1 151 (2281), Cond.methodLink RX1 153 yX1_hour, Cond.methodLink RX1 155 yX1_mix, Cond.static yX1_mix, Cond.code yX1_mix cX1_mix 3 (some .long), Cond.constantLong RX1 213 (31), Cond.methodLink RX1 159 yX1_stones, Cond.methodLink RX1 162 yX1_sacks, Cond.methodLink RX1 165 yX1_rule, Cond.methodLink RX1 167 yX1_wind, Cond.methodLink RX1 170 yX1_ground, Cond.methodLink RX1 173 yX1_changes, Cond.methodLink RX1 176 yX1_first, Cond.methodLink RX1 179 yX1_late, Cond.methodLink RX1 182 yX1_bestRule, Cond.methodLink RX1 185 yX1_groundIn, Cond.methodLink RX1 188 yX1_sackOn]
def wsL_law0_r26 : List Cond := [Cond.methodLink RX1 191 yX1_mixSacks, Cond.instanceMethod yX1_mixSacks, Cond.selects RX1 yX1_mixSacks yX1_mixSacks, Cond.code yX1_mixSacks cX1_mixSacks 6 (some .long), Cond.methodLink RX1 198 yX1_stoneOf, Cond.methodLink RX1 201 yX1_leftOf, Cond.methodLink RX1 204 yX1_untilOf, Cond.methodLink RX1 207 yX1_groundAt, Cond.methodLink RX1 210 yX1_placeOf, Cond.methodLink RX1 195 yX1_leftFor, Cond.methodLink RL 202 yX2_digest, Cond.instanceMethod yX2_digest, Cond.selects RX2 yX2_digest yX2_digest, Cond.code yX2_digest cX2_digest 11 (some .long), Cond.constantLong RX2 143 (2281), Cond.constantLong RX2 145 (31)]
def wsL_law0 : List Cond := (wsL_law0_r1 ++ (wsL_law0_r2 ++ (wsL_law0_r3 ++ (wsL_law0_r4 ++ (wsL_law0_r5 ++ (wsL_law0_r6 ++ (wsL_law0_r7 ++ (wsL_law0_r8 ++ (wsL_law0_r9 ++ (wsL_law0_r10 ++ (wsL_law0_r11 ++ (wsL_law0_r12 ++ (wsL_law0_r13 ++ (wsL_law0_r14 ++ (wsL_law0_r15 ++ (wsL_law0_r16 ++ (wsL_law0_r17 ++ (wsL_law0_r18 ++ (wsL_law0_r19 ++ (wsL_law0_r20 ++ (wsL_law0_r21 ++ (wsL_law0_r22 ++ (wsL_law0_r23 ++ (wsL_law0_r24 ++ (wsL_law0_r25 ++ wsL_law0_r26))))))))))))))))))))))))) ++ wsX10 ++ wsX20 ++ wsX00 ++ ([] : List Cond)
def wsL_law : List Cond := wsL_law0 ++ (vx_atS RX1 23 "java/lang/IllegalArgumentException" ["java/lang/RuntimeException", "java/lang/Exception"]).filter goodWord ++ (vx_atS RX1 34 "java/lang/IllegalStateException" ["java/lang/RuntimeException", "java/lang/Exception"]).filter goodWord ++ (vx_atS RX1 43 "java/lang/IndexOutOfBoundsException" ["java/lang/RuntimeException", "java/lang/Exception"]).filter goodWord
set_option maxRecDepth 20000 in
theorem wsL_law_in0 : ∀ w ∈ wsL_law0, w ∈ lw_tbl := fun w h => (goodIn_p wsL_law0 [48, 51, 56, 560, 417, 438, 606, 609, 613, 602, 446, 617, 455, 206, 621, 133, 625, 462, 407, 465, 469, 475, 629, 633, 482, 381, 297, 637, 641, 491, 645, 498, 344, 285, 289, 293, 180, 184, 301, 176, 306, 310, 157, 160, 314, 649, 653, 657, 661, 665, 669, 673, 677, 137, 682, 686, 141, 690, 145, 694, 149, 698, 153, 702, 349, 706, 710, 377, 714, 718, 386, 722, 390, 726, 394, 730, 164, 734, 738, 168, 742, 172, 746, 398, 750, 754, 404, 758, 762, 188, 192, 195, 766, 770, 533, 373, 278, 281, 775, 779, 783, 790, 540, 794, 203, 798, 802, 199, 806, 810, 551, 814, 341, 818, 822, 318, 826, 322, 327, 369, 830] (by decide +kernel) (by decide +kernel) w h).1
theorem wsL_law_x0 : ∀ w ∈ (vx_atS RX1 23 "java/lang/IllegalArgumentException" ["java/lang/RuntimeException", "java/lang/Exception"]).filter goodWord, w ∈ lw_tbl := by decide +kernel
theorem wsL_law_x1 : ∀ w ∈ (vx_atS RX1 34 "java/lang/IllegalStateException" ["java/lang/RuntimeException", "java/lang/Exception"]).filter goodWord, w ∈ lw_tbl := by decide +kernel
theorem wsL_law_x2 : ∀ w ∈ (vx_atS RX1 43 "java/lang/IndexOutOfBoundsException" ["java/lang/RuntimeException", "java/lang/Exception"]).filter goodWord, w ∈ lw_tbl := by decide +kernel
theorem wsL_law_in : ∀ w ∈ wsL_law, w ∈ lw_tbl := fun w h => (List.mem_append.mp h).elim (fun h => (List.mem_append.mp h).elim (fun h => (List.mem_append.mp h).elim (fun h => wsL_law_in0 w h) (fun h => wsL_law_x0 w h)) (fun h => wsL_law_x1 w h)) (fun h => wsL_law_x2 w h)
theorem inlX0 : ∀ w ∈ wsX00, w ∈ wsL_law := fun _ h => List.mem_append_left _ (List.mem_append_left _ (List.mem_append_left _ (List.mem_append_left _ (List.mem_append_right _ h))))
theorem inX0 : ∀ w ∈ wsX00, w ∈ lw_tbl := fun w h => wsL_law_in w (inlX0 w h)
theorem inlX1 : ∀ w ∈ wsX10, w ∈ wsL_law := fun _ h => List.mem_append_left _ (List.mem_append_left _ (List.mem_append_left _ (List.mem_append_left _ (List.mem_append_left _ (List.mem_append_left _ (List.mem_append_right _ h))))))
theorem inX1 : ∀ w ∈ wsX10, w ∈ lw_tbl := fun w h => wsL_law_in w (inlX1 w h)
theorem inlX2 : ∀ w ∈ wsX20, w ∈ wsL_law := fun _ h => List.mem_append_left _ (List.mem_append_left _ (List.mem_append_left _ (List.mem_append_left _ (List.mem_append_left _ (List.mem_append_right _ h)))))
theorem inX2 : ∀ w ∈ wsX20, w ∈ lw_tbl := fun w h => wsL_law_in w (inlX2 w h)
theorem inJ9 : ∀ w ∈ wsJ90, w ∈ lw_tbl := by decide +kernel
theorem inJ0 : ∀ w ∈ wsJ00, w ∈ lw_tbl := by decide +kernel
theorem inJ10 : ∀ w ∈ wsJ100, w ∈ lw_tbl := by decide +kernel
theorem dX0_init_0 : decode cX0_init 0 = .ok (.aload_n 0, 1) := by decide +kernel
theorem dX0_init_1 : decode cX0_init 1 = .ok (.invokespecial 3, 3) := by decide +kernel
theorem dX0_init_4 : decode cX0_init 4 = .ok (.aload_n 0, 1) := by decide +kernel
theorem dX0_init_5 : decode cX0_init 5 = .ok (.bipush 12, 2) := by decide +kernel
theorem dX0_init_7 : decode cX0_init 7 = .ok (.newarray .int, 2) := by decide +kernel
theorem dX0_init_9 : decode cX0_init 9 = .ok (.putfield 9, 3) := by decide +kernel
theorem dX0_init_12 : decode cX0_init 12 = .ok (.aload_n 0, 1) := by decide +kernel
theorem dX0_init_13 : decode cX0_init 13 = .ok (.iconst 4, 1) := by decide +kernel
theorem dX0_init_14 : decode cX0_init 14 = .ok (.newarray .int, 2) := by decide +kernel
theorem dX0_init_16 : decode cX0_init 16 = .ok (.putfield 15, 3) := by decide +kernel
theorem dX0_init_19 : decode cX0_init 19 = .ok (.aload_n 0, 1) := by decide +kernel
theorem dX0_init_20 : decode cX0_init 20 = .ok (.iconst 4, 1) := by decide +kernel
theorem dX0_init_21 : decode cX0_init 21 = .ok (.newarray .int, 2) := by decide +kernel
theorem dX0_init_23 : decode cX0_init 23 = .ok (.putfield 18, 3) := by decide +kernel
theorem dX0_init_26 : decode cX0_init 26 = .ok (.aload_n 0, 1) := by decide +kernel
theorem dX0_init_27 : decode cX0_init 27 = .ok (.iconst 4, 1) := by decide +kernel
theorem dX0_init_28 : decode cX0_init 28 = .ok (.newarray .boolean, 2) := by decide +kernel
theorem dX0_init_30 : decode cX0_init 30 = .ok (.putfield 21, 3) := by decide +kernel
theorem dX0_init_33 : decode cX0_init 33 = .ok (.aload_n 0, 1) := by decide +kernel
theorem dX0_init_34 : decode cX0_init 34 = .ok (.bipush 16, 2) := by decide +kernel
theorem dX0_init_36 : decode cX0_init 36 = .ok (.newarray .int, 2) := by decide +kernel
theorem dX0_init_38 : decode cX0_init 38 = .ok (.putfield 25, 3) := by decide +kernel
theorem dX0_init_41 : decode cX0_init 41 = .ok (.aload_n 0, 1) := by decide +kernel
theorem dX0_init_42 : decode cX0_init 42 = .ok (.bipush 16, 2) := by decide +kernel
theorem dX0_init_44 : decode cX0_init 44 = .ok (.newarray .int, 2) := by decide +kernel
theorem dX0_init_46 : decode cX0_init 46 = .ok (.putfield 28, 3) := by decide +kernel
theorem dX0_init_49 : decode cX0_init 49 = .ok (.aload_n 0, 1) := by decide +kernel
theorem dX0_init_50 : decode cX0_init 50 = .ok (.bipush 16, 2) := by decide +kernel
theorem dX0_init_52 : decode cX0_init 52 = .ok (.newarray .int, 2) := by decide +kernel
theorem dX0_init_54 : decode cX0_init 54 = .ok (.putfield 31, 3) := by decide +kernel
theorem dX0_init_57 : decode cX0_init 57 = .ok (.aload_n 0, 1) := by decide +kernel
theorem dX0_init_58 : decode cX0_init 58 = .ok (.bipush 16, 2) := by decide +kernel
theorem dX0_init_60 : decode cX0_init 60 = .ok (.newarray .int, 2) := by decide +kernel
theorem dX0_init_62 : decode cX0_init 62 = .ok (.putfield 34, 3) := by decide +kernel
theorem dX0_init_65 : decode cX0_init 65 = .ok (.aload_n 0, 1) := by decide +kernel
theorem dX0_init_66 : decode cX0_init 66 = .ok (.bipush 16, 2) := by decide +kernel
theorem dX0_init_68 : decode cX0_init 68 = .ok (.newarray .int, 2) := by decide +kernel
theorem dX0_init_70 : decode cX0_init 70 = .ok (.putfield 37, 3) := by decide +kernel
theorem dX0_init_73 : decode cX0_init 73 = .ok (.aload_n 0, 1) := by decide +kernel
theorem dX0_init_74 : decode cX0_init 74 = .ok (.iconst 0, 1) := by decide +kernel
theorem dX0_init_75 : decode cX0_init 75 = .ok (.putfield 40, 3) := by decide +kernel
theorem dX0_init_78 : decode cX0_init 78 = .ok (.aload_n 0, 1) := by decide +kernel
theorem dX0_init_79 : decode cX0_init 79 = .ok (.iconst 0, 1) := by decide +kernel
theorem dX0_init_80 : decode cX0_init 80 = .ok (.putfield 44, 3) := by decide +kernel
theorem dX0_init_83 : decode cX0_init 83 = .ok (.aload_n 0, 1) := by decide +kernel
theorem dX0_init_84 : decode cX0_init 84 = .ok (.iconst 0, 1) := by decide +kernel
theorem dX0_init_85 : decode cX0_init 85 = .ok (.putfield 47, 3) := by decide +kernel
theorem dX0_init_88 : decode cX0_init 88 = .ok (.aload_n 0, 1) := by decide +kernel
theorem dX0_init_89 : decode cX0_init 89 = .ok (.iconst 0, 1) := by decide +kernel
theorem dX0_init_90 : decode cX0_init 90 = .ok (.putfield 50, 3) := by decide +kernel
theorem dX0_init_93 : decode cX0_init 93 = .ok (.aload_n 0, 1) := by decide +kernel
theorem dX0_init_94 : decode cX0_init 94 = .ok (.iconst 0, 1) := by decide +kernel
theorem dX0_init_95 : decode cX0_init 95 = .ok (.putfield 53, 3) := by decide +kernel
theorem dX0_init_98 : decode cX0_init 98 = .ok (.aload_n 0, 1) := by decide +kernel
theorem dX0_init_99 : decode cX0_init 99 = .ok (.iconst 0, 1) := by decide +kernel
theorem dX0_init_100 : decode cX0_init 100 = .ok (.putfield 56, 3) := by decide +kernel
theorem dX0_init_103 : decode cX0_init 103 = .ok (.aload_n 0, 1) := by decide +kernel
theorem dX0_init_104 : decode cX0_init 104 = .ok (.iconst 0, 1) := by decide +kernel
theorem dX0_init_105 : decode cX0_init 105 = .ok (.putfield 59, 3) := by decide +kernel
theorem dX0_init_108 : decode cX0_init 108 = .ok (.iconst 0, 1) := by decide +kernel
theorem dX0_init_109 : decode cX0_init 109 = .ok (.istore_n 1, 1) := by decide +kernel
theorem dX0_init_110 : decode cX0_init 110 = .ok (.iload_n 1, 1) := by decide +kernel
theorem dX0_init_111 : decode cX0_init 111 = .ok (.bipush 12, 2) := by decide +kernel
theorem dX0_init_113 : decode cX0_init 113 = .ok (.if_icmp .ge 16, 3) := by decide +kernel
theorem dX0_init_116 : decode cX0_init 116 = .ok (.aload_n 0, 1) := by decide +kernel
theorem dX0_init_117 : decode cX0_init 117 = .ok (.getfield 9, 3) := by decide +kernel
theorem dX0_init_120 : decode cX0_init 120 = .ok (.iload_n 1, 1) := by decide +kernel
theorem dX0_init_121 : decode cX0_init 121 = .ok (.iconst 5, 1) := by decide +kernel
theorem dX0_init_122 : decode cX0_init 122 = .ok (.iastore, 1) := by decide +kernel
theorem dX0_init_123 : decode cX0_init 123 = .ok (.iinc 1 1, 3) := by decide +kernel
theorem dX0_init_126 : decode cX0_init 126 = .ok (.goto (-16), 3) := by decide +kernel
theorem dX0_init_129 : decode cX0_init 129 = .ok (.return_, 1) := by decide +kernel
set_option maxRecDepth 20000 in
theorem ggX0_become_X0_copyRow : GoodIn wsX0_become wsX0_copyRow := goodIn_r _ [19] (by decide +kernel) (by decide +kernel)
set_option maxRecDepth 20000 in
theorem gX0_become_X0_copyRow : GoodIn wsX0_become (va_wsS RX0 63 yX0_copyRow wsX0_copyRow) := goodIn_app (goodIn_of _ (by decide +kernel)) ggX0_become_X0_copyRow
theorem dX0_become_0 : decode cX0_become 0 = .ok (.aload_n 1, 1) := by decide +kernel
theorem dX0_become_1 : decode cX0_become 1 = .ok (.getfield 9, 3) := by decide +kernel
theorem dX0_become_4 : decode cX0_become 4 = .ok (.aload_n 0, 1) := by decide +kernel
theorem dX0_become_5 : decode cX0_become 5 = .ok (.getfield 9, 3) := by decide +kernel
theorem dX0_become_8 : decode cX0_become 8 = .ok (.invokestatic 63, 3) := by decide +kernel
theorem dX0_become_11 : decode cX0_become 11 = .ok (.aload_n 1, 1) := by decide +kernel
theorem dX0_become_12 : decode cX0_become 12 = .ok (.getfield 15, 3) := by decide +kernel
theorem dX0_become_15 : decode cX0_become 15 = .ok (.aload_n 0, 1) := by decide +kernel
theorem dX0_become_16 : decode cX0_become 16 = .ok (.getfield 15, 3) := by decide +kernel
theorem dX0_become_19 : decode cX0_become 19 = .ok (.invokestatic 63, 3) := by decide +kernel
theorem dX0_become_22 : decode cX0_become 22 = .ok (.aload_n 1, 1) := by decide +kernel
theorem dX0_become_23 : decode cX0_become 23 = .ok (.getfield 18, 3) := by decide +kernel
theorem dX0_become_26 : decode cX0_become 26 = .ok (.aload_n 0, 1) := by decide +kernel
theorem dX0_become_27 : decode cX0_become 27 = .ok (.getfield 18, 3) := by decide +kernel
theorem dX0_become_30 : decode cX0_become 30 = .ok (.invokestatic 63, 3) := by decide +kernel
theorem dX0_become_33 : decode cX0_become 33 = .ok (.aload_n 1, 1) := by decide +kernel
theorem dX0_become_34 : decode cX0_become 34 = .ok (.getfield 25, 3) := by decide +kernel
theorem dX0_become_37 : decode cX0_become 37 = .ok (.aload_n 0, 1) := by decide +kernel
theorem dX0_become_38 : decode cX0_become 38 = .ok (.getfield 25, 3) := by decide +kernel
theorem dX0_become_41 : decode cX0_become 41 = .ok (.invokestatic 63, 3) := by decide +kernel
theorem dX0_become_44 : decode cX0_become 44 = .ok (.aload_n 1, 1) := by decide +kernel
theorem dX0_become_45 : decode cX0_become 45 = .ok (.getfield 28, 3) := by decide +kernel
theorem dX0_become_48 : decode cX0_become 48 = .ok (.aload_n 0, 1) := by decide +kernel
theorem dX0_become_49 : decode cX0_become 49 = .ok (.getfield 28, 3) := by decide +kernel
theorem dX0_become_52 : decode cX0_become 52 = .ok (.invokestatic 63, 3) := by decide +kernel
theorem dX0_become_55 : decode cX0_become 55 = .ok (.aload_n 1, 1) := by decide +kernel
theorem dX0_become_56 : decode cX0_become 56 = .ok (.getfield 31, 3) := by decide +kernel
theorem dX0_become_59 : decode cX0_become 59 = .ok (.aload_n 0, 1) := by decide +kernel
theorem dX0_become_60 : decode cX0_become 60 = .ok (.getfield 31, 3) := by decide +kernel
theorem dX0_become_63 : decode cX0_become 63 = .ok (.invokestatic 63, 3) := by decide +kernel
theorem dX0_become_66 : decode cX0_become 66 = .ok (.aload_n 1, 1) := by decide +kernel
theorem dX0_become_67 : decode cX0_become 67 = .ok (.getfield 34, 3) := by decide +kernel
theorem dX0_become_70 : decode cX0_become 70 = .ok (.aload_n 0, 1) := by decide +kernel
theorem dX0_become_71 : decode cX0_become 71 = .ok (.getfield 34, 3) := by decide +kernel
theorem dX0_become_74 : decode cX0_become 74 = .ok (.invokestatic 63, 3) := by decide +kernel
theorem dX0_become_77 : decode cX0_become 77 = .ok (.aload_n 1, 1) := by decide +kernel
theorem dX0_become_78 : decode cX0_become 78 = .ok (.getfield 37, 3) := by decide +kernel
theorem dX0_become_81 : decode cX0_become 81 = .ok (.aload_n 0, 1) := by decide +kernel
theorem dX0_become_82 : decode cX0_become 82 = .ok (.getfield 37, 3) := by decide +kernel
theorem dX0_become_85 : decode cX0_become 85 = .ok (.invokestatic 63, 3) := by decide +kernel
theorem dX0_become_88 : decode cX0_become 88 = .ok (.aload_n 0, 1) := by decide +kernel
theorem dX0_become_89 : decode cX0_become 89 = .ok (.aload_n 1, 1) := by decide +kernel
theorem dX0_become_90 : decode cX0_become 90 = .ok (.getfield 40, 3) := by decide +kernel
theorem dX0_become_93 : decode cX0_become 93 = .ok (.putfield 40, 3) := by decide +kernel
theorem dX0_become_96 : decode cX0_become 96 = .ok (.aload_n 0, 1) := by decide +kernel
theorem dX0_become_97 : decode cX0_become 97 = .ok (.aload_n 1, 1) := by decide +kernel
theorem dX0_become_98 : decode cX0_become 98 = .ok (.getfield 44, 3) := by decide +kernel
theorem dX0_become_101 : decode cX0_become 101 = .ok (.putfield 44, 3) := by decide +kernel
theorem dX0_become_104 : decode cX0_become 104 = .ok (.aload_n 0, 1) := by decide +kernel
theorem dX0_become_105 : decode cX0_become 105 = .ok (.aload_n 1, 1) := by decide +kernel
theorem dX0_become_106 : decode cX0_become 106 = .ok (.getfield 47, 3) := by decide +kernel
theorem dX0_become_109 : decode cX0_become 109 = .ok (.putfield 47, 3) := by decide +kernel
theorem dX0_become_112 : decode cX0_become 112 = .ok (.aload_n 0, 1) := by decide +kernel
theorem dX0_become_113 : decode cX0_become 113 = .ok (.aload_n 1, 1) := by decide +kernel
theorem dX0_become_114 : decode cX0_become 114 = .ok (.getfield 50, 3) := by decide +kernel
theorem dX0_become_117 : decode cX0_become 117 = .ok (.putfield 50, 3) := by decide +kernel
theorem dX0_become_120 : decode cX0_become 120 = .ok (.aload_n 0, 1) := by decide +kernel
theorem dX0_become_121 : decode cX0_become 121 = .ok (.aload_n 1, 1) := by decide +kernel
theorem dX0_become_122 : decode cX0_become 122 = .ok (.getfield 53, 3) := by decide +kernel
theorem dX0_become_125 : decode cX0_become 125 = .ok (.putfield 53, 3) := by decide +kernel
theorem dX0_become_128 : decode cX0_become 128 = .ok (.aload_n 0, 1) := by decide +kernel
theorem dX0_become_129 : decode cX0_become 129 = .ok (.aload_n 1, 1) := by decide +kernel
theorem dX0_become_130 : decode cX0_become 130 = .ok (.getfield 56, 3) := by decide +kernel
theorem dX0_become_133 : decode cX0_become 133 = .ok (.putfield 56, 3) := by decide +kernel
theorem dX0_become_136 : decode cX0_become 136 = .ok (.aload_n 0, 1) := by decide +kernel
theorem dX0_become_137 : decode cX0_become 137 = .ok (.aload_n 1, 1) := by decide +kernel
theorem dX0_become_138 : decode cX0_become 138 = .ok (.getfield 59, 3) := by decide +kernel
theorem dX0_become_141 : decode cX0_become 141 = .ok (.putfield 59, 3) := by decide +kernel
theorem dX0_become_144 : decode cX0_become 144 = .ok (.return_, 1) := by decide +kernel
theorem dX0_copyRow_0 : decode cX0_copyRow 0 = .ok (.iconst 0, 1) := by decide +kernel
theorem dX0_copyRow_1 : decode cX0_copyRow 1 = .ok (.istore_n 2, 1) := by decide +kernel
theorem dX0_copyRow_2 : decode cX0_copyRow 2 = .ok (.iload_n 2, 1) := by decide +kernel
theorem dX0_copyRow_3 : decode cX0_copyRow 3 = .ok (.aload_n 0, 1) := by decide +kernel
theorem dX0_copyRow_4 : decode cX0_copyRow 4 = .ok (.arraylength, 1) := by decide +kernel
theorem dX0_copyRow_5 : decode cX0_copyRow 5 = .ok (.if_icmp .ge 21, 3) := by decide +kernel
theorem dX0_copyRow_8 : decode cX0_copyRow 8 = .ok (.iload_n 2, 1) := by decide +kernel
theorem dX0_copyRow_9 : decode cX0_copyRow 9 = .ok (.aload_n 1, 1) := by decide +kernel
theorem dX0_copyRow_10 : decode cX0_copyRow 10 = .ok (.arraylength, 1) := by decide +kernel
theorem dX0_copyRow_11 : decode cX0_copyRow 11 = .ok (.if_icmp .ge 15, 3) := by decide +kernel
theorem dX0_copyRow_14 : decode cX0_copyRow 14 = .ok (.aload_n 1, 1) := by decide +kernel
theorem dX0_copyRow_15 : decode cX0_copyRow 15 = .ok (.iload_n 2, 1) := by decide +kernel
theorem dX0_copyRow_16 : decode cX0_copyRow 16 = .ok (.aload_n 0, 1) := by decide +kernel
theorem dX0_copyRow_17 : decode cX0_copyRow 17 = .ok (.iload_n 2, 1) := by decide +kernel
theorem dX0_copyRow_18 : decode cX0_copyRow 18 = .ok (.iaload, 1) := by decide +kernel
theorem dX0_copyRow_19 : decode cX0_copyRow 19 = .ok (.iastore, 1) := by decide +kernel
theorem dX0_copyRow_20 : decode cX0_copyRow 20 = .ok (.iinc 2 1, 3) := by decide +kernel
theorem dX0_copyRow_23 : decode cX0_copyRow 23 = .ok (.goto (-21), 3) := by decide +kernel
theorem dX0_copyRow_26 : decode cX0_copyRow 26 = .ok (.return_, 1) := by decide +kernel
theorem dX0_placeStone_0 : decode cX0_placeStone 0 = .ok (.aload_n 0, 1) := by decide +kernel
theorem dX0_placeStone_1 : decode cX0_placeStone 1 = .ok (.getfield 44, 3) := by decide +kernel
theorem dX0_placeStone_4 : decode cX0_placeStone 4 = .ok (.istore_n 2, 1) := by decide +kernel
theorem dX0_placeStone_5 : decode cX0_placeStone 5 = .ok (.aload_n 0, 1) := by decide +kernel
theorem dX0_placeStone_6 : decode cX0_placeStone 6 = .ok (.getfield 15, 3) := by decide +kernel
theorem dX0_placeStone_9 : decode cX0_placeStone 9 = .ok (.iload_n 2, 1) := by decide +kernel
theorem dX0_placeStone_10 : decode cX0_placeStone 10 = .ok (.iload_n 1, 1) := by decide +kernel
theorem dX0_placeStone_11 : decode cX0_placeStone 11 = .ok (.iastore, 1) := by decide +kernel
theorem dX0_placeStone_12 : decode cX0_placeStone 12 = .ok (.aload_n 0, 1) := by decide +kernel
theorem dX0_placeStone_13 : decode cX0_placeStone 13 = .ok (.getfield 18, 3) := by decide +kernel
theorem dX0_placeStone_16 : decode cX0_placeStone 16 = .ok (.iload_n 2, 1) := by decide +kernel
theorem dX0_placeStone_17 : decode cX0_placeStone 17 = .ok (.iconst (-1), 1) := by decide +kernel
theorem dX0_placeStone_18 : decode cX0_placeStone 18 = .ok (.iastore, 1) := by decide +kernel
theorem dX0_placeStone_19 : decode cX0_placeStone 19 = .ok (.aload_n 0, 1) := by decide +kernel
theorem dX0_placeStone_20 : decode cX0_placeStone 20 = .ok (.iload_n 2, 1) := by decide +kernel
theorem dX0_placeStone_21 : decode cX0_placeStone 21 = .ok (.iconst 1, 1) := by decide +kernel
theorem dX0_placeStone_22 : decode cX0_placeStone 22 = .ok (.iadd, 1) := by decide +kernel
theorem dX0_placeStone_23 : decode cX0_placeStone 23 = .ok (.putfield 44, 3) := by decide +kernel
theorem dX0_placeStone_26 : decode cX0_placeStone 26 = .ok (.iload_n 2, 1) := by decide +kernel
theorem dX0_placeStone_27 : decode cX0_placeStone 27 = .ok (.ireturn, 1) := by decide +kernel
theorem dX0_storeSack_0 : decode cX0_storeSack 0 = .ok (.aload_n 0, 1) := by decide +kernel
theorem dX0_storeSack_1 : decode cX0_storeSack 1 = .ok (.getfield 47, 3) := by decide +kernel
theorem dX0_storeSack_4 : decode cX0_storeSack 4 = .ok (.istore 4, 2) := by decide +kernel
theorem dX0_storeSack_6 : decode cX0_storeSack 6 = .ok (.aload_n 0, 1) := by decide +kernel
theorem dX0_storeSack_7 : decode cX0_storeSack 7 = .ok (.getfield 25, 3) := by decide +kernel
theorem dX0_storeSack_10 : decode cX0_storeSack 10 = .ok (.iload 4, 2) := by decide +kernel
theorem dX0_storeSack_12 : decode cX0_storeSack 12 = .ok (.iload_n 1, 1) := by decide +kernel
theorem dX0_storeSack_13 : decode cX0_storeSack 13 = .ok (.iastore, 1) := by decide +kernel
theorem dX0_storeSack_14 : decode cX0_storeSack 14 = .ok (.aload_n 0, 1) := by decide +kernel
theorem dX0_storeSack_15 : decode cX0_storeSack 15 = .ok (.getfield 28, 3) := by decide +kernel
theorem dX0_storeSack_18 : decode cX0_storeSack 18 = .ok (.iload 4, 2) := by decide +kernel
theorem dX0_storeSack_20 : decode cX0_storeSack 20 = .ok (.iload_n 2, 1) := by decide +kernel
theorem dX0_storeSack_21 : decode cX0_storeSack 21 = .ok (.iastore, 1) := by decide +kernel
theorem dX0_storeSack_22 : decode cX0_storeSack 22 = .ok (.aload_n 0, 1) := by decide +kernel
theorem dX0_storeSack_23 : decode cX0_storeSack 23 = .ok (.getfield 31, 3) := by decide +kernel
theorem dX0_storeSack_26 : decode cX0_storeSack 26 = .ok (.iload 4, 2) := by decide +kernel
theorem dX0_storeSack_28 : decode cX0_storeSack 28 = .ok (.iload_n 3, 1) := by decide +kernel
theorem dX0_storeSack_29 : decode cX0_storeSack 29 = .ok (.iastore, 1) := by decide +kernel
theorem dX0_storeSack_30 : decode cX0_storeSack 30 = .ok (.aload_n 0, 1) := by decide +kernel
theorem dX0_storeSack_31 : decode cX0_storeSack 31 = .ok (.getfield 34, 3) := by decide +kernel
theorem dX0_storeSack_34 : decode cX0_storeSack 34 = .ok (.iload 4, 2) := by decide +kernel
theorem dX0_storeSack_36 : decode cX0_storeSack 36 = .ok (.iconst (-1), 1) := by decide +kernel
theorem dX0_storeSack_37 : decode cX0_storeSack 37 = .ok (.iastore, 1) := by decide +kernel
theorem dX0_storeSack_38 : decode cX0_storeSack 38 = .ok (.aload_n 0, 1) := by decide +kernel
theorem dX0_storeSack_39 : decode cX0_storeSack 39 = .ok (.getfield 37, 3) := by decide +kernel
theorem dX0_storeSack_42 : decode cX0_storeSack 42 = .ok (.iload 4, 2) := by decide +kernel
theorem dX0_storeSack_44 : decode cX0_storeSack 44 = .ok (.iconst (-1), 1) := by decide +kernel
theorem dX0_storeSack_45 : decode cX0_storeSack 45 = .ok (.iastore, 1) := by decide +kernel
theorem dX0_storeSack_46 : decode cX0_storeSack 46 = .ok (.aload_n 0, 1) := by decide +kernel
theorem dX0_storeSack_47 : decode cX0_storeSack 47 = .ok (.iload 4, 2) := by decide +kernel
theorem dX0_storeSack_49 : decode cX0_storeSack 49 = .ok (.iconst 1, 1) := by decide +kernel
theorem dX0_storeSack_50 : decode cX0_storeSack 50 = .ok (.iadd, 1) := by decide +kernel
theorem dX0_storeSack_51 : decode cX0_storeSack 51 = .ok (.putfield 47, 3) := by decide +kernel
theorem dX0_storeSack_54 : decode cX0_storeSack 54 = .ok (.iload 4, 2) := by decide +kernel
theorem dX0_storeSack_56 : decode cX0_storeSack 56 = .ok (.ireturn, 1) := by decide +kernel
set_option maxRecDepth 20000 in
theorem ggX0_run_X0_takeOffUnwanted : GoodIn wsX0_run wsX0_takeOffUnwanted := goodIn_r _ [9, 10, 11, 12, 13, 14, 8, 15, 3, 16, 17, 18, 19, 20, 21, 22, 23, 24, 25, 26, 27, 28, 29, 30, 31, 65, 66, 67, 68, 69, 70, 71, 72, 73, 74, 75, 76, 77, 78, 79, 80] (by decide +kernel) (by decide +kernel)
set_option maxRecDepth 20000 in
theorem gX0_run_X0_takeOffUnwanted : GoodIn wsX0_run (wsV RX0 67 RX0 yX0_takeOffUnwanted wsX0_takeOffUnwanted) := goodIn_app (goodIn_of _ (by decide +kernel)) ggX0_run_X0_takeOffUnwanted
set_option maxRecDepth 20000 in
theorem ggX0_run_X0_fillStones : GoodIn wsX0_run wsX0_fillStones := goodIn_r _ [35, 10, 11, 36, 31, 37, 38, 39, 40, 8, 41, 3, 16, 17, 18, 19, 20, 21, 22, 23, 24, 25, 26, 65, 66, 67, 68, 69, 70, 71, 72, 73, 74, 75, 76, 77, 78, 79, 80] (by decide +kernel) (by decide +kernel)
set_option maxRecDepth 20000 in
theorem gX0_run_X0_fillStones : GoodIn wsX0_run (wsV RX0 70 RX0 yX0_fillStones wsX0_fillStones) := goodIn_app (goodIn_of _ (by decide +kernel)) ggX0_run_X0_fillStones
set_option maxRecDepth 20000 in
theorem ggX0_run_X0_grind : GoodIn wsX0_run wsX0_grind := goodIn_r _ [45, 10, 11, 36, 46, 20, 47, 48, 49, 50, 51, 52, 53, 8, 54, 55, 1, 56, 57, 58, 59, 65, 66, 67, 68, 69, 70, 71, 72, 73, 74, 75, 76, 77, 78, 79, 80] (by decide +kernel) (by decide +kernel)
set_option maxRecDepth 20000 in
theorem gX0_run_X0_grind : GoodIn wsX0_run (wsV RX0 73 RX0 yX0_grind wsX0_grind) := goodIn_app (goodIn_of _ (by decide +kernel)) ggX0_run_X0_grind
set_option maxRecDepth 20000 in
theorem ggX0_run_X0_finishSacks : GoodIn wsX0_run wsX0_finishSacks := goodIn_r _ [63, 10, 11, 64, 1, 2, 16, 17, 18, 8, 19, 20, 27, 28, 29, 30, 31, 65, 66, 67, 68, 69, 70, 71, 72, 73, 74, 75, 76, 77, 78, 79, 80] (by decide +kernel) (by decide +kernel)
set_option maxRecDepth 20000 in
theorem gX0_run_X0_finishSacks : GoodIn wsX0_run (wsV RX0 77 RX0 yX0_finishSacks wsX0_finishSacks) := goodIn_app (goodIn_of _ (by decide +kernel)) ggX0_run_X0_finishSacks
theorem dX0_run_0 : decode cX0_run 0 = .ok (.aload_n 0, 1) := by decide +kernel
theorem dX0_run_1 : decode cX0_run 1 = .ok (.getfield 40, 3) := by decide +kernel
theorem dX0_run_4 : decode cX0_run 4 = .ok (.iload_n 1, 1) := by decide +kernel
theorem dX0_run_5 : decode cX0_run 5 = .ok (.iadd, 1) := by decide +kernel
theorem dX0_run_6 : decode cX0_run 6 = .ok (.istore_n 2, 1) := by decide +kernel
theorem dX0_run_7 : decode cX0_run 7 = .ok (.iconst 0, 1) := by decide +kernel
theorem dX0_run_8 : decode cX0_run 8 = .ok (.istore_n 3, 1) := by decide +kernel
theorem dX0_run_9 : decode cX0_run 9 = .ok (.iconst 0, 1) := by decide +kernel
theorem dX0_run_10 : decode cX0_run 10 = .ok (.istore 4, 2) := by decide +kernel
theorem dX0_run_12 : decode cX0_run 12 = .ok (.iload 4, 2) := by decide +kernel
theorem dX0_run_14 : decode cX0_run 14 = .ok (.iload_n 1, 1) := by decide +kernel
theorem dX0_run_15 : decode cX0_run 15 = .ok (.if_icmp .ge 56, 3) := by decide +kernel
theorem dX0_run_18 : decode cX0_run 18 = .ok (.aload_n 0, 1) := by decide +kernel
theorem dX0_run_19 : decode cX0_run 19 = .ok (.getfield 50, 3) := by decide +kernel
theorem dX0_run_22 : decode cX0_run 22 = .ok (.aload_n 0, 1) := by decide +kernel
theorem dX0_run_23 : decode cX0_run 23 = .ok (.getfield 47, 3) := by decide +kernel
theorem dX0_run_26 : decode cX0_run 26 = .ok (.if_icmp .ge 45, 3) := by decide +kernel
theorem dX0_run_29 : decode cX0_run 29 = .ok (.aload_n 0, 1) := by decide +kernel
theorem dX0_run_30 : decode cX0_run 30 = .ok (.getfield 59, 3) := by decide +kernel
theorem dX0_run_33 : decode cX0_run 33 = .ok (.ifCond .eq 7, 3) := by decide +kernel
theorem dX0_run_36 : decode cX0_run 36 = .ok (.aload_n 0, 1) := by decide +kernel
theorem dX0_run_37 : decode cX0_run 37 = .ok (.invokevirtual 67, 3) := by decide +kernel
theorem dX0_run_40 : decode cX0_run 40 = .ok (.aload_n 0, 1) := by decide +kernel
theorem dX0_run_41 : decode cX0_run 41 = .ok (.invokevirtual 70, 3) := by decide +kernel
theorem dX0_run_44 : decode cX0_run 44 = .ok (.iload_n 3, 1) := by decide +kernel
theorem dX0_run_45 : decode cX0_run 45 = .ok (.aload_n 0, 1) := by decide +kernel
theorem dX0_run_46 : decode cX0_run 46 = .ok (.invokevirtual 73, 3) := by decide +kernel
theorem dX0_run_49 : decode cX0_run 49 = .ok (.iadd, 1) := by decide +kernel
theorem dX0_run_50 : decode cX0_run 50 = .ok (.istore_n 3, 1) := by decide +kernel
theorem dX0_run_51 : decode cX0_run 51 = .ok (.aload_n 0, 1) := by decide +kernel
theorem dX0_run_52 : decode cX0_run 52 = .ok (.dup, 1) := by decide +kernel
theorem dX0_run_53 : decode cX0_run 53 = .ok (.getfield 40, 3) := by decide +kernel
theorem dX0_run_56 : decode cX0_run 56 = .ok (.iconst 1, 1) := by decide +kernel
theorem dX0_run_57 : decode cX0_run 57 = .ok (.iadd, 1) := by decide +kernel
theorem dX0_run_58 : decode cX0_run 58 = .ok (.putfield 40, 3) := by decide +kernel
theorem dX0_run_61 : decode cX0_run 61 = .ok (.aload_n 0, 1) := by decide +kernel
theorem dX0_run_62 : decode cX0_run 62 = .ok (.invokevirtual 77, 3) := by decide +kernel
theorem dX0_run_65 : decode cX0_run 65 = .ok (.iinc 4 1, 3) := by decide +kernel
theorem dX0_run_68 : decode cX0_run 68 = .ok (.goto (-56), 3) := by decide +kernel
theorem dX0_run_71 : decode cX0_run 71 = .ok (.aload_n 0, 1) := by decide +kernel
theorem dX0_run_72 : decode cX0_run 72 = .ok (.iload_n 2, 1) := by decide +kernel
theorem dX0_run_73 : decode cX0_run 73 = .ok (.putfield 40, 3) := by decide +kernel
theorem dX0_run_76 : decode cX0_run 76 = .ok (.iload_n 3, 1) := by decide +kernel
theorem dX0_run_77 : decode cX0_run 77 = .ok (.ireturn, 1) := by decide +kernel
set_option maxRecDepth 20000 in
theorem ggX0_takeOffUnwanted_X0_countAhead : GoodIn wsX0_takeOffUnwanted wsX0_countAhead := goodIn_r _ [7, 8, 9, 10, 11, 6, 12, 13, 14, 15, 16, 17, 18, 19, 25, 26, 27, 28, 29, 30, 31, 32, 33, 34, 35, 36, 37, 38, 39, 40] (by decide +kernel) (by decide +kernel)
set_option maxRecDepth 20000 in
theorem gX0_takeOffUnwanted_X0_countAhead : GoodIn wsX0_takeOffUnwanted (wsV RX0 80 RX0 yX0_countAhead wsX0_countAhead) := goodIn_app (goodIn_of _ (by decide +kernel)) ggX0_takeOffUnwanted_X0_countAhead
set_option maxRecDepth 20000 in
theorem ggX0_takeOffUnwanted_X0_clearStone : GoodIn wsX0_takeOffUnwanted wsX0_clearStone := goodIn_r _ [23, 2, 24, 25, 26, 27, 28, 29, 30, 31, 32, 33, 34, 35, 36, 37, 38, 39, 40] (by decide +kernel) (by decide +kernel)
set_option maxRecDepth 20000 in
theorem gX0_takeOffUnwanted_X0_clearStone : GoodIn wsX0_takeOffUnwanted (wsV RX0 84 RX0 yX0_clearStone wsX0_clearStone) := goodIn_app (goodIn_of _ (by decide +kernel)) ggX0_takeOffUnwanted_X0_clearStone
theorem dX0_takeOffUnwanted_0 : decode cX0_takeOffUnwanted 0 = .ok (.iconst 0, 1) := by decide +kernel
theorem dX0_takeOffUnwanted_1 : decode cX0_takeOffUnwanted 1 = .ok (.istore_n 1, 1) := by decide +kernel
theorem dX0_takeOffUnwanted_2 : decode cX0_takeOffUnwanted 2 = .ok (.iload_n 1, 1) := by decide +kernel
theorem dX0_takeOffUnwanted_3 : decode cX0_takeOffUnwanted 3 = .ok (.aload_n 0, 1) := by decide +kernel
theorem dX0_takeOffUnwanted_4 : decode cX0_takeOffUnwanted 4 = .ok (.getfield 44, 3) := by decide +kernel
theorem dX0_takeOffUnwanted_7 : decode cX0_takeOffUnwanted 7 = .ok (.if_icmp .ge 38, 3) := by decide +kernel
theorem dX0_takeOffUnwanted_10 : decode cX0_takeOffUnwanted 10 = .ok (.aload_n 0, 1) := by decide +kernel
theorem dX0_takeOffUnwanted_11 : decode cX0_takeOffUnwanted 11 = .ok (.getfield 18, 3) := by decide +kernel
theorem dX0_takeOffUnwanted_14 : decode cX0_takeOffUnwanted 14 = .ok (.iload_n 1, 1) := by decide +kernel
theorem dX0_takeOffUnwanted_15 : decode cX0_takeOffUnwanted 15 = .ok (.iaload, 1) := by decide +kernel
theorem dX0_takeOffUnwanted_16 : decode cX0_takeOffUnwanted 16 = .ok (.istore_n 2, 1) := by decide +kernel
theorem dX0_takeOffUnwanted_17 : decode cX0_takeOffUnwanted 17 = .ok (.iload_n 2, 1) := by decide +kernel
theorem dX0_takeOffUnwanted_18 : decode cX0_takeOffUnwanted 18 = .ok (.iconst (-1), 1) := by decide +kernel
theorem dX0_takeOffUnwanted_19 : decode cX0_takeOffUnwanted 19 = .ok (.if_icmp .eq 20, 3) := by decide +kernel
theorem dX0_takeOffUnwanted_22 : decode cX0_takeOffUnwanted 22 = .ok (.aload_n 0, 1) := by decide +kernel
theorem dX0_takeOffUnwanted_23 : decode cX0_takeOffUnwanted 23 = .ok (.iload_n 2, 1) := by decide +kernel
theorem dX0_takeOffUnwanted_24 : decode cX0_takeOffUnwanted 24 = .ok (.invokevirtual 80, 3) := by decide +kernel
theorem dX0_takeOffUnwanted_27 : decode cX0_takeOffUnwanted 27 = .ok (.aload_n 0, 1) := by decide +kernel
theorem dX0_takeOffUnwanted_28 : decode cX0_takeOffUnwanted 28 = .ok (.getfield 44, 3) := by decide +kernel
theorem dX0_takeOffUnwanted_31 : decode cX0_takeOffUnwanted 31 = .ok (.if_icmp .lt 8, 3) := by decide +kernel
theorem dX0_takeOffUnwanted_34 : decode cX0_takeOffUnwanted 34 = .ok (.aload_n 0, 1) := by decide +kernel
theorem dX0_takeOffUnwanted_35 : decode cX0_takeOffUnwanted 35 = .ok (.iload_n 1, 1) := by decide +kernel
theorem dX0_takeOffUnwanted_36 : decode cX0_takeOffUnwanted 36 = .ok (.invokevirtual 84, 3) := by decide +kernel
theorem dX0_takeOffUnwanted_39 : decode cX0_takeOffUnwanted 39 = .ok (.iinc 1 1, 3) := by decide +kernel
theorem dX0_takeOffUnwanted_42 : decode cX0_takeOffUnwanted 42 = .ok (.goto (-40), 3) := by decide +kernel
theorem dX0_takeOffUnwanted_45 : decode cX0_takeOffUnwanted 45 = .ok (.return_, 1) := by decide +kernel
set_option maxRecDepth 20000 in
theorem ggX0_fillStones_X0_firstByRule : GoodIn wsX0_fillStones wsX0_firstByRule := goodIn_r _ [10, 11, 4, 12, 13, 14, 9, 15, 16, 17, 18, 19, 20, 21, 22, 23, 24, 25, 26, 27, 28, 29, 30, 31, 32, 33, 34, 35, 36, 37, 38] (by decide +kernel) (by decide +kernel)
set_option maxRecDepth 20000 in
theorem gX0_fillStones_X0_firstByRule : GoodIn wsX0_fillStones (wsV RX0 88 RX0 yX0_firstByRule wsX0_firstByRule) := goodIn_app (goodIn_of _ (by decide +kernel)) ggX0_fillStones_X0_firstByRule
theorem dX0_fillStones_0 : decode cX0_fillStones 0 = .ok (.iconst 0, 1) := by decide +kernel
theorem dX0_fillStones_1 : decode cX0_fillStones 1 = .ok (.istore_n 1, 1) := by decide +kernel
theorem dX0_fillStones_2 : decode cX0_fillStones 2 = .ok (.iload_n 1, 1) := by decide +kernel
theorem dX0_fillStones_3 : decode cX0_fillStones 3 = .ok (.aload_n 0, 1) := by decide +kernel
theorem dX0_fillStones_4 : decode cX0_fillStones 4 = .ok (.getfield 44, 3) := by decide +kernel
theorem dX0_fillStones_7 : decode cX0_fillStones 7 = .ok (.if_icmp .ge 74, 3) := by decide +kernel
theorem dX0_fillStones_10 : decode cX0_fillStones 10 = .ok (.aload_n 0, 1) := by decide +kernel
theorem dX0_fillStones_11 : decode cX0_fillStones 11 = .ok (.getfield 18, 3) := by decide +kernel
theorem dX0_fillStones_14 : decode cX0_fillStones 14 = .ok (.iload_n 1, 1) := by decide +kernel
theorem dX0_fillStones_15 : decode cX0_fillStones 15 = .ok (.iaload, 1) := by decide +kernel
theorem dX0_fillStones_16 : decode cX0_fillStones 16 = .ok (.iconst (-1), 1) := by decide +kernel
theorem dX0_fillStones_17 : decode cX0_fillStones 17 = .ok (.if_icmp .ne 11, 3) := by decide +kernel
theorem dX0_fillStones_20 : decode cX0_fillStones 20 = .ok (.aload_n 0, 1) := by decide +kernel
theorem dX0_fillStones_21 : decode cX0_fillStones 21 = .ok (.iconst 1, 1) := by decide +kernel
theorem dX0_fillStones_22 : decode cX0_fillStones 22 = .ok (.invokevirtual 88, 3) := by decide +kernel
theorem dX0_fillStones_25 : decode cX0_fillStones 25 = .ok (.goto 4, 3) := by decide +kernel
theorem dX0_fillStones_28 : decode cX0_fillStones 28 = .ok (.iconst (-1), 1) := by decide +kernel
theorem dX0_fillStones_29 : decode cX0_fillStones 29 = .ok (.istore_n 2, 1) := by decide +kernel
theorem dX0_fillStones_30 : decode cX0_fillStones 30 = .ok (.aload_n 0, 1) := by decide +kernel
theorem dX0_fillStones_31 : decode cX0_fillStones 31 = .ok (.getfield 21, 3) := by decide +kernel
theorem dX0_fillStones_34 : decode cX0_fillStones 34 = .ok (.iload_n 1, 1) := by decide +kernel
theorem dX0_fillStones_35 : decode cX0_fillStones 35 = .ok (.iload_n 2, 1) := by decide +kernel
theorem dX0_fillStones_36 : decode cX0_fillStones 36 = .ok (.iconst (-1), 1) := by decide +kernel
theorem dX0_fillStones_37 : decode cX0_fillStones 37 = .ok (.if_icmp .eq 7, 3) := by decide +kernel
theorem dX0_fillStones_40 : decode cX0_fillStones 40 = .ok (.iconst 1, 1) := by decide +kernel
theorem dX0_fillStones_41 : decode cX0_fillStones 41 = .ok (.goto 4, 3) := by decide +kernel
theorem dX0_fillStones_44 : decode cX0_fillStones 44 = .ok (.iconst 0, 1) := by decide +kernel
theorem dX0_fillStones_45 : decode cX0_fillStones 45 = .ok (.bastore, 1) := by decide +kernel
theorem dX0_fillStones_46 : decode cX0_fillStones 46 = .ok (.iload_n 2, 1) := by decide +kernel
theorem dX0_fillStones_47 : decode cX0_fillStones 47 = .ok (.iconst (-1), 1) := by decide +kernel
theorem dX0_fillStones_48 : decode cX0_fillStones 48 = .ok (.if_icmp .eq 27, 3) := by decide +kernel
theorem dX0_fillStones_51 : decode cX0_fillStones 51 = .ok (.aload_n 0, 1) := by decide +kernel
theorem dX0_fillStones_52 : decode cX0_fillStones 52 = .ok (.getfield 18, 3) := by decide +kernel
theorem dX0_fillStones_55 : decode cX0_fillStones 55 = .ok (.iload_n 1, 1) := by decide +kernel
theorem dX0_fillStones_56 : decode cX0_fillStones 56 = .ok (.iload_n 2, 1) := by decide +kernel
theorem dX0_fillStones_57 : decode cX0_fillStones 57 = .ok (.iastore, 1) := by decide +kernel
theorem dX0_fillStones_58 : decode cX0_fillStones 58 = .ok (.aload_n 0, 1) := by decide +kernel
theorem dX0_fillStones_59 : decode cX0_fillStones 59 = .ok (.getfield 34, 3) := by decide +kernel
theorem dX0_fillStones_62 : decode cX0_fillStones 62 = .ok (.iload_n 2, 1) := by decide +kernel
theorem dX0_fillStones_63 : decode cX0_fillStones 63 = .ok (.iload_n 1, 1) := by decide +kernel
theorem dX0_fillStones_64 : decode cX0_fillStones 64 = .ok (.iastore, 1) := by decide +kernel
theorem dX0_fillStones_65 : decode cX0_fillStones 65 = .ok (.aload_n 0, 1) := by decide +kernel
theorem dX0_fillStones_66 : decode cX0_fillStones 66 = .ok (.dup, 1) := by decide +kernel
theorem dX0_fillStones_67 : decode cX0_fillStones 67 = .ok (.getfield 53, 3) := by decide +kernel
theorem dX0_fillStones_70 : decode cX0_fillStones 70 = .ok (.iconst 1, 1) := by decide +kernel
theorem dX0_fillStones_71 : decode cX0_fillStones 71 = .ok (.iadd, 1) := by decide +kernel
theorem dX0_fillStones_72 : decode cX0_fillStones 72 = .ok (.putfield 53, 3) := by decide +kernel
theorem dX0_fillStones_75 : decode cX0_fillStones 75 = .ok (.iinc 1 1, 3) := by decide +kernel
theorem dX0_fillStones_78 : decode cX0_fillStones 78 = .ok (.goto (-76), 3) := by decide +kernel
theorem dX0_fillStones_81 : decode cX0_fillStones 81 = .ok (.return_, 1) := by decide +kernel
set_option maxRecDepth 20000 in
theorem ggX0_grind_X0_windOfHour : GoodIn wsX0_grind wsX0_windOfHour := goodIn_r _ [14, 15, 16, 17, 18, 19, 20, 21, 22, 23, 24, 25, 26, 27, 28, 29, 30, 31, 32, 33, 34, 35, 36] (by decide +kernel) (by decide +kernel)
set_option maxRecDepth 20000 in
theorem gX0_grind_X0_windOfHour : GoodIn wsX0_grind (wsV RX0 92 RX0 yX0_windOfHour wsX0_windOfHour) := goodIn_app (goodIn_of _ (by decide +kernel)) ggX0_grind_X0_windOfHour
theorem dX0_grind_0 : decode cX0_grind 0 = .ok (.aload_n 0, 1) := by decide +kernel
theorem dX0_grind_1 : decode cX0_grind 1 = .ok (.invokevirtual 92, 3) := by decide +kernel
theorem dX0_grind_4 : decode cX0_grind 4 = .ok (.istore_n 1, 1) := by decide +kernel
theorem dX0_grind_5 : decode cX0_grind 5 = .ok (.iconst 0, 1) := by decide +kernel
theorem dX0_grind_6 : decode cX0_grind 6 = .ok (.istore_n 2, 1) := by decide +kernel
theorem dX0_grind_7 : decode cX0_grind 7 = .ok (.iconst 0, 1) := by decide +kernel
theorem dX0_grind_8 : decode cX0_grind 8 = .ok (.istore_n 3, 1) := by decide +kernel
theorem dX0_grind_9 : decode cX0_grind 9 = .ok (.iload_n 3, 1) := by decide +kernel
theorem dX0_grind_10 : decode cX0_grind 10 = .ok (.aload_n 0, 1) := by decide +kernel
theorem dX0_grind_11 : decode cX0_grind 11 = .ok (.getfield 44, 3) := by decide +kernel
theorem dX0_grind_14 : decode cX0_grind 14 = .ok (.if_icmp .ge 88, 3) := by decide +kernel
theorem dX0_grind_17 : decode cX0_grind 17 = .ok (.aload_n 0, 1) := by decide +kernel
theorem dX0_grind_18 : decode cX0_grind 18 = .ok (.getfield 18, 3) := by decide +kernel
theorem dX0_grind_21 : decode cX0_grind 21 = .ok (.iload_n 3, 1) := by decide +kernel
theorem dX0_grind_22 : decode cX0_grind 22 = .ok (.iaload, 1) := by decide +kernel
theorem dX0_grind_23 : decode cX0_grind 23 = .ok (.istore 4, 2) := by decide +kernel
theorem dX0_grind_25 : decode cX0_grind 25 = .ok (.iload 4, 2) := by decide +kernel
theorem dX0_grind_27 : decode cX0_grind 27 = .ok (.iconst (-1), 1) := by decide +kernel
theorem dX0_grind_28 : decode cX0_grind 28 = .ok (.if_icmp .eq 68, 3) := by decide +kernel
theorem dX0_grind_31 : decode cX0_grind 31 = .ok (.aload_n 0, 1) := by decide +kernel
theorem dX0_grind_32 : decode cX0_grind 32 = .ok (.getfield 21, 3) := by decide +kernel
theorem dX0_grind_35 : decode cX0_grind 35 = .ok (.iload_n 3, 1) := by decide +kernel
theorem dX0_grind_36 : decode cX0_grind 36 = .ok (.baload, 1) := by decide +kernel
theorem dX0_grind_37 : decode cX0_grind 37 = .ok (.ifCond .eq 14, 3) := by decide +kernel
theorem dX0_grind_40 : decode cX0_grind 40 = .ok (.aload_n 0, 1) := by decide +kernel
theorem dX0_grind_41 : decode cX0_grind 41 = .ok (.getfield 15, 3) := by decide +kernel
theorem dX0_grind_44 : decode cX0_grind 44 = .ok (.iload_n 3, 1) := by decide +kernel
theorem dX0_grind_45 : decode cX0_grind 45 = .ok (.iaload, 1) := by decide +kernel
theorem dX0_grind_46 : decode cX0_grind 46 = .ok (.iconst 1, 1) := by decide +kernel
theorem dX0_grind_47 : decode cX0_grind 47 = .ok (.isub, 1) := by decide +kernel
theorem dX0_grind_48 : decode cX0_grind 48 = .ok (.goto 9, 3) := by decide +kernel
theorem dX0_grind_51 : decode cX0_grind 51 = .ok (.aload_n 0, 1) := by decide +kernel
theorem dX0_grind_52 : decode cX0_grind 52 = .ok (.getfield 15, 3) := by decide +kernel
theorem dX0_grind_55 : decode cX0_grind 55 = .ok (.iload_n 3, 1) := by decide +kernel
theorem dX0_grind_56 : decode cX0_grind 56 = .ok (.iaload, 1) := by decide +kernel
theorem dX0_grind_57 : decode cX0_grind 57 = .ok (.istore 5, 2) := by decide +kernel
theorem dX0_grind_59 : decode cX0_grind 59 = .ok (.iload 5, 2) := by decide +kernel
theorem dX0_grind_61 : decode cX0_grind 61 = .ok (.aload_n 0, 1) := by decide +kernel
theorem dX0_grind_62 : decode cX0_grind 62 = .ok (.getfield 28, 3) := by decide +kernel
theorem dX0_grind_65 : decode cX0_grind 65 = .ok (.iload 4, 2) := by decide +kernel
theorem dX0_grind_67 : decode cX0_grind 67 = .ok (.iaload, 1) := by decide +kernel
theorem dX0_grind_68 : decode cX0_grind 68 = .ok (.iload_n 1, 1) := by decide +kernel
theorem dX0_grind_69 : decode cX0_grind 69 = .ok (.iload_n 2, 1) := by decide +kernel
theorem dX0_grind_70 : decode cX0_grind 70 = .ok (.isub, 1) := by decide +kernel
theorem dX0_grind_71 : decode cX0_grind 71 = .ok (.invokestatic 95, 3) := by decide +kernel
theorem dX0_grind_74 : decode cX0_grind 74 = .ok (.invokestatic 95, 3) := by decide +kernel
theorem dX0_grind_77 : decode cX0_grind 77 = .ok (.istore 6, 2) := by decide +kernel
theorem dX0_grind_79 : decode cX0_grind 79 = .ok (.aload_n 0, 1) := by decide +kernel
theorem dX0_grind_80 : decode cX0_grind 80 = .ok (.getfield 28, 3) := by decide +kernel
theorem dX0_grind_83 : decode cX0_grind 83 = .ok (.iload 4, 2) := by decide +kernel
theorem dX0_grind_85 : decode cX0_grind 85 = .ok (.dup2, 1) := by decide +kernel
theorem dX0_grind_86 : decode cX0_grind 86 = .ok (.iaload, 1) := by decide +kernel
theorem dX0_grind_87 : decode cX0_grind 87 = .ok (.iload 6, 2) := by decide +kernel
theorem dX0_grind_89 : decode cX0_grind 89 = .ok (.isub, 1) := by decide +kernel
theorem dX0_grind_90 : decode cX0_grind 90 = .ok (.iastore, 1) := by decide +kernel
theorem dX0_grind_91 : decode cX0_grind 91 = .ok (.iload_n 2, 1) := by decide +kernel
theorem dX0_grind_92 : decode cX0_grind 92 = .ok (.iload 6, 2) := by decide +kernel
theorem dX0_grind_94 : decode cX0_grind 94 = .ok (.iadd, 1) := by decide +kernel
theorem dX0_grind_95 : decode cX0_grind 95 = .ok (.istore_n 2, 1) := by decide +kernel
theorem dX0_grind_96 : decode cX0_grind 96 = .ok (.iinc 3 1, 3) := by decide +kernel
theorem dX0_grind_99 : decode cX0_grind 99 = .ok (.goto (-90), 3) := by decide +kernel
theorem dX0_grind_102 : decode cX0_grind 102 = .ok (.iload_n 2, 1) := by decide +kernel
theorem dX0_grind_103 : decode cX0_grind 103 = .ok (.ireturn, 1) := by decide +kernel
set_option maxRecDepth 20000 in
theorem ggX0_finishSacks_X0_isGround : GoodIn wsX0_finishSacks wsX0_isGround := goodIn_r _ [10, 11, 17, 18, 19, 20, 21, 22, 23, 24, 25, 26, 27, 28, 29, 30, 31, 32] (by decide +kernel) (by decide +kernel)
set_option maxRecDepth 20000 in
theorem gX0_finishSacks_X0_isGround : GoodIn wsX0_finishSacks (wsV RX0 101 RX0 yX0_isGround wsX0_isGround) := goodIn_app (goodIn_of _ (by decide +kernel)) ggX0_finishSacks_X0_isGround
set_option maxRecDepth 20000 in
theorem ggX0_finishSacks_X0_clearStone : GoodIn wsX0_finishSacks wsX0_clearStone := goodIn_r _ [15, 2, 16, 17, 18, 19, 20, 21, 22, 23, 24, 25, 26, 27, 28, 29, 30, 31, 32] (by decide +kernel) (by decide +kernel)
set_option maxRecDepth 20000 in
theorem gX0_finishSacks_X0_clearStone : GoodIn wsX0_finishSacks (wsV RX0 84 RX0 yX0_clearStone wsX0_clearStone) := goodIn_app (goodIn_of _ (by decide +kernel)) ggX0_finishSacks_X0_clearStone
theorem dX0_finishSacks_0 : decode cX0_finishSacks 0 = .ok (.iconst 0, 1) := by decide +kernel
theorem dX0_finishSacks_1 : decode cX0_finishSacks 1 = .ok (.istore_n 1, 1) := by decide +kernel
theorem dX0_finishSacks_2 : decode cX0_finishSacks 2 = .ok (.iload_n 1, 1) := by decide +kernel
theorem dX0_finishSacks_3 : decode cX0_finishSacks 3 = .ok (.aload_n 0, 1) := by decide +kernel
theorem dX0_finishSacks_4 : decode cX0_finishSacks 4 = .ok (.getfield 44, 3) := by decide +kernel
theorem dX0_finishSacks_7 : decode cX0_finishSacks 7 = .ok (.if_icmp .ge 54, 3) := by decide +kernel
theorem dX0_finishSacks_10 : decode cX0_finishSacks 10 = .ok (.aload_n 0, 1) := by decide +kernel
theorem dX0_finishSacks_11 : decode cX0_finishSacks 11 = .ok (.getfield 18, 3) := by decide +kernel
theorem dX0_finishSacks_14 : decode cX0_finishSacks 14 = .ok (.iload_n 1, 1) := by decide +kernel
theorem dX0_finishSacks_15 : decode cX0_finishSacks 15 = .ok (.iaload, 1) := by decide +kernel
theorem dX0_finishSacks_16 : decode cX0_finishSacks 16 = .ok (.istore_n 2, 1) := by decide +kernel
theorem dX0_finishSacks_17 : decode cX0_finishSacks 17 = .ok (.iload_n 2, 1) := by decide +kernel
theorem dX0_finishSacks_18 : decode cX0_finishSacks 18 = .ok (.iconst (-1), 1) := by decide +kernel
theorem dX0_finishSacks_19 : decode cX0_finishSacks 19 = .ok (.if_icmp .eq 36, 3) := by decide +kernel
theorem dX0_finishSacks_22 : decode cX0_finishSacks 22 = .ok (.aload_n 0, 1) := by decide +kernel
theorem dX0_finishSacks_23 : decode cX0_finishSacks 23 = .ok (.iload_n 2, 1) := by decide +kernel
theorem dX0_finishSacks_24 : decode cX0_finishSacks 24 = .ok (.invokevirtual 101, 3) := by decide +kernel
theorem dX0_finishSacks_27 : decode cX0_finishSacks 27 = .ok (.ifCond .eq 28, 3) := by decide +kernel
theorem dX0_finishSacks_30 : decode cX0_finishSacks 30 = .ok (.aload_n 0, 1) := by decide +kernel
theorem dX0_finishSacks_31 : decode cX0_finishSacks 31 = .ok (.getfield 37, 3) := by decide +kernel
theorem dX0_finishSacks_34 : decode cX0_finishSacks 34 = .ok (.iload_n 2, 1) := by decide +kernel
theorem dX0_finishSacks_35 : decode cX0_finishSacks 35 = .ok (.aload_n 0, 1) := by decide +kernel
theorem dX0_finishSacks_36 : decode cX0_finishSacks 36 = .ok (.getfield 40, 3) := by decide +kernel
theorem dX0_finishSacks_39 : decode cX0_finishSacks 39 = .ok (.iastore, 1) := by decide +kernel
theorem dX0_finishSacks_40 : decode cX0_finishSacks 40 = .ok (.aload_n 0, 1) := by decide +kernel
theorem dX0_finishSacks_41 : decode cX0_finishSacks 41 = .ok (.dup, 1) := by decide +kernel
theorem dX0_finishSacks_42 : decode cX0_finishSacks 42 = .ok (.getfield 50, 3) := by decide +kernel
theorem dX0_finishSacks_45 : decode cX0_finishSacks 45 = .ok (.iconst 1, 1) := by decide +kernel
theorem dX0_finishSacks_46 : decode cX0_finishSacks 46 = .ok (.iadd, 1) := by decide +kernel
theorem dX0_finishSacks_47 : decode cX0_finishSacks 47 = .ok (.putfield 50, 3) := by decide +kernel
theorem dX0_finishSacks_50 : decode cX0_finishSacks 50 = .ok (.aload_n 0, 1) := by decide +kernel
theorem dX0_finishSacks_51 : decode cX0_finishSacks 51 = .ok (.iload_n 1, 1) := by decide +kernel
theorem dX0_finishSacks_52 : decode cX0_finishSacks 52 = .ok (.invokevirtual 84, 3) := by decide +kernel
theorem dX0_finishSacks_55 : decode cX0_finishSacks 55 = .ok (.iinc 1 1, 3) := by decide +kernel
theorem dX0_finishSacks_58 : decode cX0_finishSacks 58 = .ok (.goto (-56), 3) := by decide +kernel
theorem dX0_finishSacks_61 : decode cX0_finishSacks 61 = .ok (.return_, 1) := by decide +kernel
theorem dX0_clearStone_0 : decode cX0_clearStone 0 = .ok (.aload_n 0, 1) := by decide +kernel
theorem dX0_clearStone_1 : decode cX0_clearStone 1 = .ok (.getfield 18, 3) := by decide +kernel
theorem dX0_clearStone_4 : decode cX0_clearStone 4 = .ok (.iload_n 1, 1) := by decide +kernel
theorem dX0_clearStone_5 : decode cX0_clearStone 5 = .ok (.iaload, 1) := by decide +kernel
theorem dX0_clearStone_6 : decode cX0_clearStone 6 = .ok (.istore_n 2, 1) := by decide +kernel
theorem dX0_clearStone_7 : decode cX0_clearStone 7 = .ok (.iload_n 2, 1) := by decide +kernel
theorem dX0_clearStone_8 : decode cX0_clearStone 8 = .ok (.iconst (-1), 1) := by decide +kernel
theorem dX0_clearStone_9 : decode cX0_clearStone 9 = .ok (.if_icmp .eq 17, 3) := by decide +kernel
theorem dX0_clearStone_12 : decode cX0_clearStone 12 = .ok (.aload_n 0, 1) := by decide +kernel
theorem dX0_clearStone_13 : decode cX0_clearStone 13 = .ok (.getfield 34, 3) := by decide +kernel
theorem dX0_clearStone_16 : decode cX0_clearStone 16 = .ok (.iload_n 2, 1) := by decide +kernel
theorem dX0_clearStone_17 : decode cX0_clearStone 17 = .ok (.iconst (-1), 1) := by decide +kernel
theorem dX0_clearStone_18 : decode cX0_clearStone 18 = .ok (.iastore, 1) := by decide +kernel
theorem dX0_clearStone_19 : decode cX0_clearStone 19 = .ok (.aload_n 0, 1) := by decide +kernel
theorem dX0_clearStone_20 : decode cX0_clearStone 20 = .ok (.getfield 18, 3) := by decide +kernel
theorem dX0_clearStone_23 : decode cX0_clearStone 23 = .ok (.iload_n 1, 1) := by decide +kernel
theorem dX0_clearStone_24 : decode cX0_clearStone 24 = .ok (.iconst (-1), 1) := by decide +kernel
theorem dX0_clearStone_25 : decode cX0_clearStone 25 = .ok (.iastore, 1) := by decide +kernel
theorem dX0_clearStone_26 : decode cX0_clearStone 26 = .ok (.return_, 1) := by decide +kernel
set_option maxRecDepth 20000 in
theorem ggX0_windOfHour_J9_floorMod_7cf53 : GoodIn wsX0_windOfHour wsJ9_floorMod_7cf53 := goodIn_r _ [6] (by decide +kernel) (by decide +kernel)
set_option maxRecDepth 20000 in
theorem gX0_windOfHour_J9_floorMod_7cf53 : GoodIn wsX0_windOfHour (va_wsS RX0 105 yJ9_floorMod_7cf53 wsJ9_floorMod_7cf53) := goodIn_app (goodIn_of _ (by decide +kernel)) ggX0_windOfHour_J9_floorMod_7cf53
theorem dX0_windOfHour_0 : decode cX0_windOfHour 0 = .ok (.aload_n 0, 1) := by decide +kernel
theorem dX0_windOfHour_1 : decode cX0_windOfHour 1 = .ok (.getfield 9, 3) := by decide +kernel
theorem dX0_windOfHour_4 : decode cX0_windOfHour 4 = .ok (.aload_n 0, 1) := by decide +kernel
theorem dX0_windOfHour_5 : decode cX0_windOfHour 5 = .ok (.getfield 40, 3) := by decide +kernel
theorem dX0_windOfHour_8 : decode cX0_windOfHour 8 = .ok (.bipush 12, 2) := by decide +kernel
theorem dX0_windOfHour_10 : decode cX0_windOfHour 10 = .ok (.invokestatic 105, 3) := by decide +kernel
theorem dX0_windOfHour_13 : decode cX0_windOfHour 13 = .ok (.iaload, 1) := by decide +kernel
theorem dX0_windOfHour_14 : decode cX0_windOfHour 14 = .ok (.ireturn, 1) := by decide +kernel
theorem dX0_isGround_0 : decode cX0_isGround 0 = .ok (.aload_n 0, 1) := by decide +kernel
theorem dX0_isGround_1 : decode cX0_isGround 1 = .ok (.getfield 28, 3) := by decide +kernel
theorem dX0_isGround_4 : decode cX0_isGround 4 = .ok (.iload_n 1, 1) := by decide +kernel
theorem dX0_isGround_5 : decode cX0_isGround 5 = .ok (.iaload, 1) := by decide +kernel
theorem dX0_isGround_6 : decode cX0_isGround 6 = .ok (.ifCond .ne 7, 3) := by decide +kernel
theorem dX0_isGround_9 : decode cX0_isGround 9 = .ok (.iconst 1, 1) := by decide +kernel
theorem dX0_isGround_10 : decode cX0_isGround 10 = .ok (.goto 4, 3) := by decide +kernel
theorem dX0_isGround_13 : decode cX0_isGround 13 = .ok (.iconst 0, 1) := by decide +kernel
theorem dX0_isGround_14 : decode cX0_isGround 14 = .ok (.ireturn, 1) := by decide +kernel
set_option maxRecDepth 20000 in
theorem ggX0_firstByRule_X0_isGround : GoodIn wsX0_firstByRule wsX0_isGround := goodIn_r _ [7, 8, 15, 16, 17, 18, 19, 20, 21, 22, 23, 24, 25, 26, 27, 28, 29, 30] (by decide +kernel) (by decide +kernel)
set_option maxRecDepth 20000 in
theorem gX0_firstByRule_X0_isGround : GoodIn wsX0_firstByRule (wsV RX0 101 RX0 yX0_isGround wsX0_isGround) := goodIn_app (goodIn_of _ (by decide +kernel)) ggX0_firstByRule_X0_isGround
set_option maxRecDepth 20000 in
theorem ggX0_firstByRule_X0_isAhead : GoodIn wsX0_firstByRule wsX0_isAhead := goodIn_r _ [12, 13, 14, 8, 15, 16, 17, 18, 19, 20, 21, 22, 23, 24, 25, 26, 27, 28, 29, 30] (by decide +kernel) (by decide +kernel)
set_option maxRecDepth 20000 in
theorem gX0_firstByRule_X0_isAhead : GoodIn wsX0_firstByRule (wsV RX0 108 RX0 yX0_isAhead wsX0_isAhead) := goodIn_app (goodIn_of _ (by decide +kernel)) ggX0_firstByRule_X0_isAhead
theorem dX0_firstByRule_0 : decode cX0_firstByRule 0 = .ok (.iconst (-1), 1) := by decide +kernel
theorem dX0_firstByRule_1 : decode cX0_firstByRule 1 = .ok (.istore_n 2, 1) := by decide +kernel
theorem dX0_firstByRule_2 : decode cX0_firstByRule 2 = .ok (.iconst 0, 1) := by decide +kernel
theorem dX0_firstByRule_3 : decode cX0_firstByRule 3 = .ok (.istore_n 3, 1) := by decide +kernel
theorem dX0_firstByRule_4 : decode cX0_firstByRule 4 = .ok (.iload_n 3, 1) := by decide +kernel
theorem dX0_firstByRule_5 : decode cX0_firstByRule 5 = .ok (.aload_n 0, 1) := by decide +kernel
theorem dX0_firstByRule_6 : decode cX0_firstByRule 6 = .ok (.getfield 47, 3) := by decide +kernel
theorem dX0_firstByRule_9 : decode cX0_firstByRule 9 = .ok (.if_icmp .ge 59, 3) := by decide +kernel
theorem dX0_firstByRule_12 : decode cX0_firstByRule 12 = .ok (.aload_n 0, 1) := by decide +kernel
theorem dX0_firstByRule_13 : decode cX0_firstByRule 13 = .ok (.iload_n 3, 1) := by decide +kernel
theorem dX0_firstByRule_14 : decode cX0_firstByRule 14 = .ok (.invokevirtual 101, 3) := by decide +kernel
theorem dX0_firstByRule_17 : decode cX0_firstByRule 17 = .ok (.ifCond .ne 21, 3) := by decide +kernel
theorem dX0_firstByRule_20 : decode cX0_firstByRule 20 = .ok (.iload_n 1, 1) := by decide +kernel
theorem dX0_firstByRule_21 : decode cX0_firstByRule 21 = .ok (.ifCond .eq 13, 3) := by decide +kernel
theorem dX0_firstByRule_24 : decode cX0_firstByRule 24 = .ok (.aload_n 0, 1) := by decide +kernel
theorem dX0_firstByRule_25 : decode cX0_firstByRule 25 = .ok (.getfield 34, 3) := by decide +kernel
theorem dX0_firstByRule_28 : decode cX0_firstByRule 28 = .ok (.iload_n 3, 1) := by decide +kernel
theorem dX0_firstByRule_29 : decode cX0_firstByRule 29 = .ok (.iaload, 1) := by decide +kernel
theorem dX0_firstByRule_30 : decode cX0_firstByRule 30 = .ok (.iconst (-1), 1) := by decide +kernel
theorem dX0_firstByRule_31 : decode cX0_firstByRule 31 = .ok (.if_icmp .ne 7, 3) := by decide +kernel
theorem dX0_firstByRule_34 : decode cX0_firstByRule 34 = .ok (.iconst 1, 1) := by decide +kernel
theorem dX0_firstByRule_35 : decode cX0_firstByRule 35 = .ok (.goto 4, 3) := by decide +kernel
theorem dX0_firstByRule_38 : decode cX0_firstByRule 38 = .ok (.iconst 0, 1) := by decide +kernel
theorem dX0_firstByRule_39 : decode cX0_firstByRule 39 = .ok (.istore 4, 2) := by decide +kernel
theorem dX0_firstByRule_41 : decode cX0_firstByRule 41 = .ok (.iload 4, 2) := by decide +kernel
theorem dX0_firstByRule_43 : decode cX0_firstByRule 43 = .ok (.ifCond .eq 19, 3) := by decide +kernel
theorem dX0_firstByRule_46 : decode cX0_firstByRule 46 = .ok (.iload_n 2, 1) := by decide +kernel
theorem dX0_firstByRule_47 : decode cX0_firstByRule 47 = .ok (.iconst (-1), 1) := by decide +kernel
theorem dX0_firstByRule_48 : decode cX0_firstByRule 48 = .ok (.if_icmp .eq 12, 3) := by decide +kernel
theorem dX0_firstByRule_51 : decode cX0_firstByRule 51 = .ok (.aload_n 0, 1) := by decide +kernel
theorem dX0_firstByRule_52 : decode cX0_firstByRule 52 = .ok (.iload_n 3, 1) := by decide +kernel
theorem dX0_firstByRule_53 : decode cX0_firstByRule 53 = .ok (.iload_n 2, 1) := by decide +kernel
theorem dX0_firstByRule_54 : decode cX0_firstByRule 54 = .ok (.invokevirtual 108, 3) := by decide +kernel
theorem dX0_firstByRule_57 : decode cX0_firstByRule 57 = .ok (.ifCond .eq 5, 3) := by decide +kernel
theorem dX0_firstByRule_60 : decode cX0_firstByRule 60 = .ok (.iload_n 3, 1) := by decide +kernel
theorem dX0_firstByRule_61 : decode cX0_firstByRule 61 = .ok (.istore_n 2, 1) := by decide +kernel
theorem dX0_firstByRule_62 : decode cX0_firstByRule 62 = .ok (.iinc 3 1, 3) := by decide +kernel
theorem dX0_firstByRule_65 : decode cX0_firstByRule 65 = .ok (.goto (-61), 3) := by decide +kernel
theorem dX0_firstByRule_68 : decode cX0_firstByRule 68 = .ok (.iload_n 2, 1) := by decide +kernel
theorem dX0_firstByRule_69 : decode cX0_firstByRule 69 = .ok (.ireturn, 1) := by decide +kernel
set_option maxRecDepth 20000 in
theorem ggX0_countAhead_X0_isGround : GoodIn wsX0_countAhead wsX0_isGround := goodIn_r _ [6, 7, 14, 15, 16, 17, 18, 19, 20, 21, 22, 23, 24, 25, 26, 27, 28, 29] (by decide +kernel) (by decide +kernel)
set_option maxRecDepth 20000 in
theorem gX0_countAhead_X0_isGround : GoodIn wsX0_countAhead (wsV RX0 101 RX0 yX0_isGround wsX0_isGround) := goodIn_app (goodIn_of _ (by decide +kernel)) ggX0_countAhead_X0_isGround
set_option maxRecDepth 20000 in
theorem ggX0_countAhead_X0_isAhead : GoodIn wsX0_countAhead wsX0_isAhead := goodIn_r _ [11, 12, 13, 7, 14, 15, 16, 17, 18, 19, 20, 21, 22, 23, 24, 25, 26, 27, 28, 29] (by decide +kernel) (by decide +kernel)
set_option maxRecDepth 20000 in
theorem gX0_countAhead_X0_isAhead : GoodIn wsX0_countAhead (wsV RX0 108 RX0 yX0_isAhead wsX0_isAhead) := goodIn_app (goodIn_of _ (by decide +kernel)) ggX0_countAhead_X0_isAhead
theorem dX0_countAhead_0 : decode cX0_countAhead 0 = .ok (.iconst 0, 1) := by decide +kernel
theorem dX0_countAhead_1 : decode cX0_countAhead 1 = .ok (.istore_n 2, 1) := by decide +kernel
theorem dX0_countAhead_2 : decode cX0_countAhead 2 = .ok (.iconst 0, 1) := by decide +kernel
theorem dX0_countAhead_3 : decode cX0_countAhead 3 = .ok (.istore_n 3, 1) := by decide +kernel
theorem dX0_countAhead_4 : decode cX0_countAhead 4 = .ok (.iload_n 3, 1) := by decide +kernel
theorem dX0_countAhead_5 : decode cX0_countAhead 5 = .ok (.aload_n 0, 1) := by decide +kernel
theorem dX0_countAhead_6 : decode cX0_countAhead 6 = .ok (.getfield 47, 3) := by decide +kernel
theorem dX0_countAhead_9 : decode cX0_countAhead 9 = .ok (.if_icmp .ge 29, 3) := by decide +kernel
theorem dX0_countAhead_12 : decode cX0_countAhead 12 = .ok (.aload_n 0, 1) := by decide +kernel
theorem dX0_countAhead_13 : decode cX0_countAhead 13 = .ok (.iload_n 3, 1) := by decide +kernel
theorem dX0_countAhead_14 : decode cX0_countAhead 14 = .ok (.invokevirtual 101, 3) := by decide +kernel
theorem dX0_countAhead_17 : decode cX0_countAhead 17 = .ok (.ifCond .ne 15, 3) := by decide +kernel
theorem dX0_countAhead_20 : decode cX0_countAhead 20 = .ok (.aload_n 0, 1) := by decide +kernel
theorem dX0_countAhead_21 : decode cX0_countAhead 21 = .ok (.iload_n 3, 1) := by decide +kernel
theorem dX0_countAhead_22 : decode cX0_countAhead 22 = .ok (.iload_n 1, 1) := by decide +kernel
theorem dX0_countAhead_23 : decode cX0_countAhead 23 = .ok (.invokevirtual 108, 3) := by decide +kernel
theorem dX0_countAhead_26 : decode cX0_countAhead 26 = .ok (.ifCond .eq 6, 3) := by decide +kernel
theorem dX0_countAhead_29 : decode cX0_countAhead 29 = .ok (.iinc 2 1, 3) := by decide +kernel
theorem dX0_countAhead_32 : decode cX0_countAhead 32 = .ok (.iinc 3 1, 3) := by decide +kernel
theorem dX0_countAhead_35 : decode cX0_countAhead 35 = .ok (.goto (-31), 3) := by decide +kernel
theorem dX0_countAhead_38 : decode cX0_countAhead 38 = .ok (.iload_n 2, 1) := by decide +kernel
theorem dX0_countAhead_39 : decode cX0_countAhead 39 = .ok (.ireturn, 1) := by decide +kernel
theorem dX0_isAhead_0 : decode cX0_isAhead 0 = .ok (.iconst 0, 1) := by decide +kernel
theorem dX0_isAhead_1 : decode cX0_isAhead 1 = .ok (.istore_n 3, 1) := by decide +kernel
theorem dX0_isAhead_2 : decode cX0_isAhead 2 = .ok (.aload_n 0, 1) := by decide +kernel
theorem dX0_isAhead_3 : decode cX0_isAhead 3 = .ok (.getfield 56, 3) := by decide +kernel
theorem dX0_isAhead_6 : decode cX0_isAhead 6 = .ok (.iconst 1, 1) := by decide +kernel
theorem dX0_isAhead_7 : decode cX0_isAhead 7 = .ok (.if_icmp .ne 20, 3) := by decide +kernel
theorem dX0_isAhead_10 : decode cX0_isAhead 10 = .ok (.aload_n 0, 1) := by decide +kernel
theorem dX0_isAhead_11 : decode cX0_isAhead 11 = .ok (.getfield 31, 3) := by decide +kernel
theorem dX0_isAhead_14 : decode cX0_isAhead 14 = .ok (.iload_n 1, 1) := by decide +kernel
theorem dX0_isAhead_15 : decode cX0_isAhead 15 = .ok (.iaload, 1) := by decide +kernel
theorem dX0_isAhead_16 : decode cX0_isAhead 16 = .ok (.aload_n 0, 1) := by decide +kernel
theorem dX0_isAhead_17 : decode cX0_isAhead 17 = .ok (.getfield 31, 3) := by decide +kernel
theorem dX0_isAhead_20 : decode cX0_isAhead 20 = .ok (.iload_n 2, 1) := by decide +kernel
theorem dX0_isAhead_21 : decode cX0_isAhead 21 = .ok (.iaload, 1) := by decide +kernel
theorem dX0_isAhead_22 : decode cX0_isAhead 22 = .ok (.isub, 1) := by decide +kernel
theorem dX0_isAhead_23 : decode cX0_isAhead 23 = .ok (.istore_n 3, 1) := by decide +kernel
theorem dX0_isAhead_24 : decode cX0_isAhead 24 = .ok (.goto 25, 3) := by decide +kernel
theorem dX0_isAhead_27 : decode cX0_isAhead 27 = .ok (.aload_n 0, 1) := by decide +kernel
theorem dX0_isAhead_28 : decode cX0_isAhead 28 = .ok (.getfield 56, 3) := by decide +kernel
theorem dX0_isAhead_31 : decode cX0_isAhead 31 = .ok (.iconst 2, 1) := by decide +kernel
theorem dX0_isAhead_32 : decode cX0_isAhead 32 = .ok (.if_icmp .ne 17, 3) := by decide +kernel
theorem dX0_isAhead_35 : decode cX0_isAhead 35 = .ok (.aload_n 0, 1) := by decide +kernel
theorem dX0_isAhead_36 : decode cX0_isAhead 36 = .ok (.getfield 28, 3) := by decide +kernel
theorem dX0_isAhead_39 : decode cX0_isAhead 39 = .ok (.iload_n 1, 1) := by decide +kernel
theorem dX0_isAhead_40 : decode cX0_isAhead 40 = .ok (.iaload, 1) := by decide +kernel
theorem dX0_isAhead_41 : decode cX0_isAhead 41 = .ok (.aload_n 0, 1) := by decide +kernel
theorem dX0_isAhead_42 : decode cX0_isAhead 42 = .ok (.getfield 28, 3) := by decide +kernel
theorem dX0_isAhead_45 : decode cX0_isAhead 45 = .ok (.iload_n 2, 1) := by decide +kernel
theorem dX0_isAhead_46 : decode cX0_isAhead 46 = .ok (.iaload, 1) := by decide +kernel
theorem dX0_isAhead_47 : decode cX0_isAhead 47 = .ok (.isub, 1) := by decide +kernel
theorem dX0_isAhead_48 : decode cX0_isAhead 48 = .ok (.istore_n 3, 1) := by decide +kernel
theorem dX0_isAhead_49 : decode cX0_isAhead 49 = .ok (.iload_n 3, 1) := by decide +kernel
theorem dX0_isAhead_50 : decode cX0_isAhead 50 = .ok (.ifCond .lt 12, 3) := by decide +kernel
theorem dX0_isAhead_53 : decode cX0_isAhead 53 = .ok (.iload_n 3, 1) := by decide +kernel
theorem dX0_isAhead_54 : decode cX0_isAhead 54 = .ok (.ifCond .ne 12, 3) := by decide +kernel
theorem dX0_isAhead_57 : decode cX0_isAhead 57 = .ok (.iload_n 1, 1) := by decide +kernel
theorem dX0_isAhead_58 : decode cX0_isAhead 58 = .ok (.iload_n 2, 1) := by decide +kernel
theorem dX0_isAhead_59 : decode cX0_isAhead 59 = .ok (.if_icmp .ge 7, 3) := by decide +kernel
theorem dX0_isAhead_62 : decode cX0_isAhead 62 = .ok (.iconst 1, 1) := by decide +kernel
theorem dX0_isAhead_63 : decode cX0_isAhead 63 = .ok (.goto 4, 3) := by decide +kernel
theorem dX0_isAhead_66 : decode cX0_isAhead 66 = .ok (.iconst 0, 1) := by decide +kernel
theorem dX0_isAhead_67 : decode cX0_isAhead 67 = .ok (.ireturn, 1) := by decide +kernel
set_option maxRecDepth 20000 in
theorem ggX0_hoursLate_X0_isGround : GoodIn wsX0_hoursLate wsX0_isGround := goodIn_r _ [12, 13, 14, 15, 16, 17, 18, 19, 20, 21, 22, 23, 24, 25, 26, 27, 28, 29] (by decide +kernel) (by decide +kernel)
set_option maxRecDepth 20000 in
theorem gX0_hoursLate_X0_isGround : GoodIn wsX0_hoursLate (wsV RX0 101 RX0 yX0_isGround wsX0_isGround) := goodIn_app (goodIn_of _ (by decide +kernel)) ggX0_hoursLate_X0_isGround
theorem dX0_hoursLate_0 : decode cX0_hoursLate 0 = .ok (.iconst 0, 1) := by decide +kernel
theorem dX0_hoursLate_1 : decode cX0_hoursLate 1 = .ok (.istore_n 1, 1) := by decide +kernel
theorem dX0_hoursLate_2 : decode cX0_hoursLate 2 = .ok (.iconst 0, 1) := by decide +kernel
theorem dX0_hoursLate_3 : decode cX0_hoursLate 3 = .ok (.istore_n 2, 1) := by decide +kernel
theorem dX0_hoursLate_4 : decode cX0_hoursLate 4 = .ok (.iload_n 2, 1) := by decide +kernel
theorem dX0_hoursLate_5 : decode cX0_hoursLate 5 = .ok (.aload_n 0, 1) := by decide +kernel
theorem dX0_hoursLate_6 : decode cX0_hoursLate 6 = .ok (.getfield 47, 3) := by decide +kernel
theorem dX0_hoursLate_9 : decode cX0_hoursLate 9 = .ok (.if_icmp .ge 37, 3) := by decide +kernel
theorem dX0_hoursLate_12 : decode cX0_hoursLate 12 = .ok (.aload_n 0, 1) := by decide +kernel
theorem dX0_hoursLate_13 : decode cX0_hoursLate 13 = .ok (.iload_n 2, 1) := by decide +kernel
theorem dX0_hoursLate_14 : decode cX0_hoursLate 14 = .ok (.invokevirtual 101, 3) := by decide +kernel
theorem dX0_hoursLate_17 : decode cX0_hoursLate 17 = .ok (.ifCond .eq 23, 3) := by decide +kernel
theorem dX0_hoursLate_20 : decode cX0_hoursLate 20 = .ok (.iload_n 1, 1) := by decide +kernel
theorem dX0_hoursLate_21 : decode cX0_hoursLate 21 = .ok (.iconst 0, 1) := by decide +kernel
theorem dX0_hoursLate_22 : decode cX0_hoursLate 22 = .ok (.aload_n 0, 1) := by decide +kernel
theorem dX0_hoursLate_23 : decode cX0_hoursLate 23 = .ok (.getfield 37, 3) := by decide +kernel
theorem dX0_hoursLate_26 : decode cX0_hoursLate 26 = .ok (.iload_n 2, 1) := by decide +kernel
theorem dX0_hoursLate_27 : decode cX0_hoursLate 27 = .ok (.iaload, 1) := by decide +kernel
theorem dX0_hoursLate_28 : decode cX0_hoursLate 28 = .ok (.aload_n 0, 1) := by decide +kernel
theorem dX0_hoursLate_29 : decode cX0_hoursLate 29 = .ok (.getfield 31, 3) := by decide +kernel
theorem dX0_hoursLate_32 : decode cX0_hoursLate 32 = .ok (.iload_n 2, 1) := by decide +kernel
theorem dX0_hoursLate_33 : decode cX0_hoursLate 33 = .ok (.iaload, 1) := by decide +kernel
theorem dX0_hoursLate_34 : decode cX0_hoursLate 34 = .ok (.isub, 1) := by decide +kernel
theorem dX0_hoursLate_35 : decode cX0_hoursLate 35 = .ok (.invokestatic 112, 3) := by decide +kernel
theorem dX0_hoursLate_38 : decode cX0_hoursLate 38 = .ok (.iadd, 1) := by decide +kernel
theorem dX0_hoursLate_39 : decode cX0_hoursLate 39 = .ok (.istore_n 1, 1) := by decide +kernel
theorem dX0_hoursLate_40 : decode cX0_hoursLate 40 = .ok (.iinc 2 1, 3) := by decide +kernel
theorem dX0_hoursLate_43 : decode cX0_hoursLate 43 = .ok (.goto (-39), 3) := by decide +kernel
theorem dX0_hoursLate_46 : decode cX0_hoursLate 46 = .ok (.iload_n 1, 1) := by decide +kernel
theorem dX0_hoursLate_47 : decode cX0_hoursLate 47 = .ok (.ireturn, 1) := by decide +kernel
set_option maxRecDepth 20000 in
theorem ggX1_init_X0_init : GoodIn wsX1_init wsX0_init := goodIn_r _ [11, 12, 2, 3, 13, 14, 15, 16, 17, 18, 19, 20, 21, 22, 23, 24, 25, 26, 27, 28, 29, 30, 31, 32, 33, 34, 35, 36, 37, 38, 39, 40, 41, 42, 43, 44, 45, 46] (by decide +kernel) (by decide +kernel)
set_option maxRecDepth 20000 in
theorem gX1_init_X0_init : GoodIn wsX1_init (wsX0_init) := ggX1_init_X0_init
theorem dX1_init_0 : decode cX1_init 0 = .ok (.aload_n 0, 1) := by decide +kernel
theorem dX1_init_1 : decode cX1_init 1 = .ok (.invokespecial 1, 3) := by decide +kernel
theorem dX1_init_4 : decode cX1_init 4 = .ok (.aload_n 0, 1) := by decide +kernel
theorem dX1_init_5 : decode cX1_init 5 = .ok (.new 7, 3) := by decide +kernel
theorem dX1_init_8 : decode cX1_init 8 = .ok (.dup, 1) := by decide +kernel
theorem dX1_init_9 : decode cX1_init 9 = .ok (.invokespecial 9, 3) := by decide +kernel
theorem dX1_init_12 : decode cX1_init 12 = .ok (.putfield 10, 3) := by decide +kernel
theorem dX1_init_15 : decode cX1_init 15 = .ok (.aload_n 0, 1) := by decide +kernel
theorem dX1_init_16 : decode cX1_init 16 = .ok (.new 7, 3) := by decide +kernel
theorem dX1_init_19 : decode cX1_init 19 = .ok (.dup, 1) := by decide +kernel
theorem dX1_init_20 : decode cX1_init 20 = .ok (.invokespecial 9, 3) := by decide +kernel
theorem dX1_init_23 : decode cX1_init 23 = .ok (.putfield 16, 3) := by decide +kernel
theorem dX1_init_26 : decode cX1_init 26 = .ok (.return_, 1) := by decide +kernel
set_option maxRecDepth 20000 in
theorem ggX1_addStone_X0_placeStone : GoodIn wsX1_addStone wsX0_placeStone := goodIn_r _ [10, 11, 12, 13, 16, 17, 18, 19, 20, 21, 22, 23, 24, 25, 26, 27, 28, 29, 30, 31] (by decide +kernel) (by decide +kernel)
set_option maxRecDepth 20000 in
theorem gX1_addStone_X0_placeStone : GoodIn wsX1_addStone (wsV RX1 35 RX0 yX0_placeStone wsX0_placeStone) := goodIn_app (goodIn_of _ (by decide +kernel)) ggX1_addStone_X0_placeStone
theorem dX1_addStone_0 : decode cX1_addStone 0 = .ok (.iload_n 1, 1) := by decide +kernel
theorem dX1_addStone_1 : decode cX1_addStone 1 = .ok (.iconst 1, 1) := by decide +kernel
theorem dX1_addStone_2 : decode cX1_addStone 2 = .ok (.if_icmp .lt 9, 3) := by decide +kernel
theorem dX1_addStone_5 : decode cX1_addStone 5 = .ok (.iload_n 1, 1) := by decide +kernel
theorem dX1_addStone_6 : decode cX1_addStone 6 = .ok (.bipush 9, 2) := by decide +kernel
theorem dX1_addStone_8 : decode cX1_addStone 8 = .ok (.if_icmp .le 13, 3) := by decide +kernel
theorem dX1_addStone_11 : decode cX1_addStone 11 = .ok (.new 19, 3) := by decide +kernel
theorem dX1_addStone_14 : decode cX1_addStone 14 = .ok (.dup, 1) := by decide +kernel
theorem dX1_addStone_15 : decode cX1_addStone 15 = .ok (.ldc 21, 2) := by decide +kernel
theorem dX1_addStone_17 : decode cX1_addStone 17 = .ok (.invokespecial 23, 3) := by decide +kernel
theorem dX1_addStone_20 : decode cX1_addStone 20 = .ok (.athrow, 1) := by decide +kernel
theorem dX1_addStone_21 : decode cX1_addStone 21 = .ok (.aload_n 0, 1) := by decide +kernel
theorem dX1_addStone_22 : decode cX1_addStone 22 = .ok (.getfield 10, 3) := by decide +kernel
theorem dX1_addStone_25 : decode cX1_addStone 25 = .ok (.getfield 26, 3) := by decide +kernel
theorem dX1_addStone_28 : decode cX1_addStone 28 = .ok (.iconst 4, 1) := by decide +kernel
theorem dX1_addStone_29 : decode cX1_addStone 29 = .ok (.if_icmp .lt 13, 3) := by decide +kernel
theorem dX1_addStone_32 : decode cX1_addStone 32 = .ok (.new 30, 3) := by decide +kernel
theorem dX1_addStone_35 : decode cX1_addStone 35 = .ok (.dup, 1) := by decide +kernel
theorem dX1_addStone_36 : decode cX1_addStone 36 = .ok (.ldc 32, 2) := by decide +kernel
theorem dX1_addStone_38 : decode cX1_addStone 38 = .ok (.invokespecial 34, 3) := by decide +kernel
theorem dX1_addStone_41 : decode cX1_addStone 41 = .ok (.athrow, 1) := by decide +kernel
theorem dX1_addStone_42 : decode cX1_addStone 42 = .ok (.aload_n 0, 1) := by decide +kernel
theorem dX1_addStone_43 : decode cX1_addStone 43 = .ok (.getfield 10, 3) := by decide +kernel
theorem dX1_addStone_46 : decode cX1_addStone 46 = .ok (.iload_n 1, 1) := by decide +kernel
theorem dX1_addStone_47 : decode cX1_addStone 47 = .ok (.invokevirtual 35, 3) := by decide +kernel
theorem dX1_addStone_50 : decode cX1_addStone 50 = .ok (.ireturn, 1) := by decide +kernel
theorem dX1_setWind_0 : decode cX1_setWind 0 = .ok (.iload_n 1, 1) := by decide +kernel
theorem dX1_setWind_1 : decode cX1_setWind 1 = .ok (.ifCond .lt 9, 3) := by decide +kernel
theorem dX1_setWind_4 : decode cX1_setWind 4 = .ok (.iload_n 1, 1) := by decide +kernel
theorem dX1_setWind_5 : decode cX1_setWind 5 = .ok (.bipush 12, 2) := by decide +kernel
theorem dX1_setWind_7 : decode cX1_setWind 7 = .ok (.if_icmp .lt 13, 3) := by decide +kernel
theorem dX1_setWind_10 : decode cX1_setWind 10 = .ok (.new 39, 3) := by decide +kernel
theorem dX1_setWind_13 : decode cX1_setWind 13 = .ok (.dup, 1) := by decide +kernel
theorem dX1_setWind_14 : decode cX1_setWind 14 = .ok (.ldc 41, 2) := by decide +kernel
theorem dX1_setWind_16 : decode cX1_setWind 16 = .ok (.invokespecial 43, 3) := by decide +kernel
theorem dX1_setWind_19 : decode cX1_setWind 19 = .ok (.athrow, 1) := by decide +kernel
theorem dX1_setWind_20 : decode cX1_setWind 20 = .ok (.iload_n 2, 1) := by decide +kernel
theorem dX1_setWind_21 : decode cX1_setWind 21 = .ok (.ifCond .lt 9, 3) := by decide +kernel
theorem dX1_setWind_24 : decode cX1_setWind 24 = .ok (.iload_n 2, 1) := by decide +kernel
theorem dX1_setWind_25 : decode cX1_setWind 25 = .ok (.bipush 20, 2) := by decide +kernel
theorem dX1_setWind_27 : decode cX1_setWind 27 = .ok (.if_icmp .le 13, 3) := by decide +kernel
theorem dX1_setWind_30 : decode cX1_setWind 30 = .ok (.new 19, 3) := by decide +kernel
theorem dX1_setWind_33 : decode cX1_setWind 33 = .ok (.dup, 1) := by decide +kernel
theorem dX1_setWind_34 : decode cX1_setWind 34 = .ok (.ldc 44, 2) := by decide +kernel
theorem dX1_setWind_36 : decode cX1_setWind 36 = .ok (.invokespecial 23, 3) := by decide +kernel
theorem dX1_setWind_39 : decode cX1_setWind 39 = .ok (.athrow, 1) := by decide +kernel
theorem dX1_setWind_40 : decode cX1_setWind 40 = .ok (.aload_n 0, 1) := by decide +kernel
theorem dX1_setWind_41 : decode cX1_setWind 41 = .ok (.getfield 10, 3) := by decide +kernel
theorem dX1_setWind_44 : decode cX1_setWind 44 = .ok (.getfield 46, 3) := by decide +kernel
theorem dX1_setWind_47 : decode cX1_setWind 47 = .ok (.iload_n 1, 1) := by decide +kernel
theorem dX1_setWind_48 : decode cX1_setWind 48 = .ok (.iaload, 1) := by decide +kernel
theorem dX1_setWind_49 : decode cX1_setWind 49 = .ok (.istore_n 3, 1) := by decide +kernel
theorem dX1_setWind_50 : decode cX1_setWind 50 = .ok (.aload_n 0, 1) := by decide +kernel
theorem dX1_setWind_51 : decode cX1_setWind 51 = .ok (.getfield 10, 3) := by decide +kernel
theorem dX1_setWind_54 : decode cX1_setWind 54 = .ok (.getfield 46, 3) := by decide +kernel
theorem dX1_setWind_57 : decode cX1_setWind 57 = .ok (.iload_n 1, 1) := by decide +kernel
theorem dX1_setWind_58 : decode cX1_setWind 58 = .ok (.iload_n 2, 1) := by decide +kernel
theorem dX1_setWind_59 : decode cX1_setWind 59 = .ok (.iastore, 1) := by decide +kernel
theorem dX1_setWind_60 : decode cX1_setWind 60 = .ok (.iload_n 3, 1) := by decide +kernel
theorem dX1_setWind_61 : decode cX1_setWind 61 = .ok (.ireturn, 1) := by decide +kernel
set_option maxRecDepth 20000 in
theorem ggX1_setRule_X1_requireRule : GoodIn wsX1_setRule wsX1_requireRule := goodIn_ca (goodIn_r _ [5, 6, 7] (by decide +kernel) (by decide +kernel)) (goodIn_sub (fun _ h => List.mem_cons_of_mem _ (List.mem_append_right _ h)) (by decide +kernel))
set_option maxRecDepth 20000 in
theorem gX1_setRule_X1_requireRule : GoodIn wsX1_setRule (va_wsS RX1 50 yX1_requireRule wsX1_requireRule) := goodIn_app (goodIn_of _ (by decide +kernel)) ggX1_setRule_X1_requireRule
theorem dX1_setRule_0 : decode cX1_setRule 0 = .ok (.iload_n 1, 1) := by decide +kernel
theorem dX1_setRule_1 : decode cX1_setRule 1 = .ok (.invokestatic 50, 3) := by decide +kernel
theorem dX1_setRule_4 : decode cX1_setRule 4 = .ok (.aload_n 0, 1) := by decide +kernel
theorem dX1_setRule_5 : decode cX1_setRule 5 = .ok (.getfield 10, 3) := by decide +kernel
theorem dX1_setRule_8 : decode cX1_setRule 8 = .ok (.getfield 54, 3) := by decide +kernel
theorem dX1_setRule_11 : decode cX1_setRule 11 = .ok (.istore_n 2, 1) := by decide +kernel
theorem dX1_setRule_12 : decode cX1_setRule 12 = .ok (.aload_n 0, 1) := by decide +kernel
theorem dX1_setRule_13 : decode cX1_setRule 13 = .ok (.getfield 10, 3) := by decide +kernel
theorem dX1_setRule_16 : decode cX1_setRule 16 = .ok (.iload_n 1, 1) := by decide +kernel
theorem dX1_setRule_17 : decode cX1_setRule 17 = .ok (.putfield 54, 3) := by decide +kernel
theorem dX1_setRule_20 : decode cX1_setRule 20 = .ok (.iload_n 2, 1) := by decide +kernel
theorem dX1_setRule_21 : decode cX1_setRule 21 = .ok (.ireturn, 1) := by decide +kernel
theorem dX1_setTakingOff_0 : decode cX1_setTakingOff 0 = .ok (.aload_n 0, 1) := by decide +kernel
theorem dX1_setTakingOff_1 : decode cX1_setTakingOff 1 = .ok (.getfield 10, 3) := by decide +kernel
theorem dX1_setTakingOff_4 : decode cX1_setTakingOff 4 = .ok (.getfield 57, 3) := by decide +kernel
theorem dX1_setTakingOff_7 : decode cX1_setTakingOff 7 = .ok (.istore_n 2, 1) := by decide +kernel
theorem dX1_setTakingOff_8 : decode cX1_setTakingOff 8 = .ok (.aload_n 0, 1) := by decide +kernel
theorem dX1_setTakingOff_9 : decode cX1_setTakingOff 9 = .ok (.getfield 10, 3) := by decide +kernel
theorem dX1_setTakingOff_12 : decode cX1_setTakingOff 12 = .ok (.iload_n 1, 1) := by decide +kernel
theorem dX1_setTakingOff_13 : decode cX1_setTakingOff 13 = .ok (.putfield 57, 3) := by decide +kernel
theorem dX1_setTakingOff_16 : decode cX1_setTakingOff 16 = .ok (.iload_n 2, 1) := by decide +kernel
theorem dX1_setTakingOff_17 : decode cX1_setTakingOff 17 = .ok (.ireturn, 1) := by decide +kernel
set_option maxRecDepth 20000 in
theorem ggX1_bring_X1_requireBaker : GoodIn wsX1_bring wsX1_requireBaker := goodIn_ca (goodIn_r _ [7, 8, 9] (by decide +kernel) (by decide +kernel)) (goodIn_sub (fun _ h => List.mem_cons_of_mem _ (List.mem_append_right _ h)) (by decide +kernel))
set_option maxRecDepth 20000 in
theorem gX1_bring_X1_requireBaker : GoodIn wsX1_bring (va_wsS RX1 61 yX1_requireBaker wsX1_requireBaker) := goodIn_app (goodIn_of _ (by decide +kernel)) ggX1_bring_X1_requireBaker
set_option maxRecDepth 20000 in
theorem ggX1_bring_X1_requireGrain : GoodIn wsX1_bring wsX1_requireGrain := goodIn_ca (goodIn_r _ [12, 8, 9] (by decide +kernel) (by decide +kernel)) (goodIn_sub (fun _ h => List.mem_cons_of_mem _ (List.mem_append_right _ h)) (by decide +kernel))
set_option maxRecDepth 20000 in
theorem gX1_bring_X1_requireGrain : GoodIn wsX1_bring (va_wsS RX1 64 yX1_requireGrain wsX1_requireGrain) := goodIn_app (goodIn_of _ (by decide +kernel)) ggX1_bring_X1_requireGrain
set_option maxRecDepth 20000 in
theorem ggX1_bring_X1_requireUntil : GoodIn wsX1_bring wsX1_requireUntil := goodIn_ca (goodIn_r _ [15, 8, 9] (by decide +kernel) (by decide +kernel)) (goodIn_sub (fun _ h => List.mem_cons_of_mem _ (List.mem_append_right _ h)) (by decide +kernel))
set_option maxRecDepth 20000 in
theorem gX1_bring_X1_requireUntil : GoodIn wsX1_bring (va_wsS RX1 67 yX1_requireUntil wsX1_requireUntil) := goodIn_app (goodIn_of _ (by decide +kernel)) ggX1_bring_X1_requireUntil
set_option maxRecDepth 20000 in
theorem ggX1_bring_X0_storeSack : GoodIn wsX1_bring wsX0_storeSack := goodIn_r _ [20, 21, 22, 23, 24, 25, 26, 29, 30, 31, 32, 33, 34, 35, 36, 37, 38, 39, 40, 41, 42, 43, 44] (by decide +kernel) (by decide +kernel)
set_option maxRecDepth 20000 in
theorem gX1_bring_X0_storeSack : GoodIn wsX1_bring (wsV RX1 75 RX0 yX0_storeSack wsX0_storeSack) := goodIn_app (goodIn_of _ (by decide +kernel)) ggX1_bring_X0_storeSack
theorem dX1_bring_0 : decode cX1_bring 0 = .ok (.iload_n 1, 1) := by decide +kernel
theorem dX1_bring_1 : decode cX1_bring 1 = .ok (.invokestatic 61, 3) := by decide +kernel
theorem dX1_bring_4 : decode cX1_bring 4 = .ok (.iload_n 2, 1) := by decide +kernel
theorem dX1_bring_5 : decode cX1_bring 5 = .ok (.invokestatic 64, 3) := by decide +kernel
theorem dX1_bring_8 : decode cX1_bring 8 = .ok (.iload_n 3, 1) := by decide +kernel
theorem dX1_bring_9 : decode cX1_bring 9 = .ok (.invokestatic 67, 3) := by decide +kernel
theorem dX1_bring_12 : decode cX1_bring 12 = .ok (.aload_n 0, 1) := by decide +kernel
theorem dX1_bring_13 : decode cX1_bring 13 = .ok (.getfield 10, 3) := by decide +kernel
theorem dX1_bring_16 : decode cX1_bring 16 = .ok (.getfield 70, 3) := by decide +kernel
theorem dX1_bring_19 : decode cX1_bring 19 = .ok (.bipush 16, 2) := by decide +kernel
theorem dX1_bring_21 : decode cX1_bring 21 = .ok (.if_icmp .lt 13, 3) := by decide +kernel
theorem dX1_bring_24 : decode cX1_bring 24 = .ok (.new 30, 3) := by decide +kernel
theorem dX1_bring_27 : decode cX1_bring 27 = .ok (.dup, 1) := by decide +kernel
theorem dX1_bring_28 : decode cX1_bring 28 = .ok (.ldc 73, 2) := by decide +kernel
theorem dX1_bring_30 : decode cX1_bring 30 = .ok (.invokespecial 34, 3) := by decide +kernel
theorem dX1_bring_33 : decode cX1_bring 33 = .ok (.athrow, 1) := by decide +kernel
theorem dX1_bring_34 : decode cX1_bring 34 = .ok (.aload_n 0, 1) := by decide +kernel
theorem dX1_bring_35 : decode cX1_bring 35 = .ok (.getfield 10, 3) := by decide +kernel
theorem dX1_bring_38 : decode cX1_bring 38 = .ok (.iload_n 1, 1) := by decide +kernel
theorem dX1_bring_39 : decode cX1_bring 39 = .ok (.iload_n 2, 1) := by decide +kernel
theorem dX1_bring_40 : decode cX1_bring 40 = .ok (.iload_n 3, 1) := by decide +kernel
theorem dX1_bring_41 : decode cX1_bring 41 = .ok (.invokevirtual 75, 3) := by decide +kernel
theorem dX1_bring_44 : decode cX1_bring 44 = .ok (.ireturn, 1) := by decide +kernel
set_option maxRecDepth 20000 in
theorem ggX1_lift_X1_requireSack : GoodIn wsX1_lift wsX1_requireSack := goodIn_ca (goodIn_r _ [8, 9, 10, 3, 18, 19, 20, 21, 22, 23, 24, 25, 26, 27, 28, 29, 30, 31, 32, 33, 34, 35] (by decide +kernel) (by decide +kernel)) (goodIn_sub (fun _ h => List.mem_cons_of_mem _ (List.mem_append_right _ h)) (by decide +kernel))
set_option maxRecDepth 20000 in
theorem gX1_lift_X1_requireSack : GoodIn wsX1_lift (wsV RX1 79 RX1 yX1_requireSack wsX1_requireSack) := goodIn_app (goodIn_of _ (by decide +kernel)) ggX1_lift_X1_requireSack
set_option maxRecDepth 20000 in
theorem ggX1_lift_X0_clearStone : GoodIn wsX1_lift wsX0_clearStone := goodIn_r _ [15, 16, 17, 20, 21, 22, 23, 24, 25, 26, 27, 28, 29, 30, 31, 32, 33, 34, 35] (by decide +kernel) (by decide +kernel)
set_option maxRecDepth 20000 in
theorem gX1_lift_X0_clearStone : GoodIn wsX1_lift (wsV RX1 87 RX0 yX0_clearStone wsX0_clearStone) := goodIn_app (goodIn_of _ (by decide +kernel)) ggX1_lift_X0_clearStone
theorem dX1_lift_0 : decode cX1_lift 0 = .ok (.aload_n 0, 1) := by decide +kernel
theorem dX1_lift_1 : decode cX1_lift 1 = .ok (.iload_n 1, 1) := by decide +kernel
theorem dX1_lift_2 : decode cX1_lift 2 = .ok (.invokevirtual 79, 3) := by decide +kernel
theorem dX1_lift_5 : decode cX1_lift 5 = .ok (.aload_n 0, 1) := by decide +kernel
theorem dX1_lift_6 : decode cX1_lift 6 = .ok (.getfield 10, 3) := by decide +kernel
theorem dX1_lift_9 : decode cX1_lift 9 = .ok (.getfield 82, 3) := by decide +kernel
theorem dX1_lift_12 : decode cX1_lift 12 = .ok (.iload_n 1, 1) := by decide +kernel
theorem dX1_lift_13 : decode cX1_lift 13 = .ok (.iaload, 1) := by decide +kernel
theorem dX1_lift_14 : decode cX1_lift 14 = .ok (.istore_n 2, 1) := by decide +kernel
theorem dX1_lift_15 : decode cX1_lift 15 = .ok (.iload_n 2, 1) := by decide +kernel
theorem dX1_lift_16 : decode cX1_lift 16 = .ok (.iconst (-1), 1) := by decide +kernel
theorem dX1_lift_17 : decode cX1_lift 17 = .ok (.if_icmp .ne 13, 3) := by decide +kernel
theorem dX1_lift_20 : decode cX1_lift 20 = .ok (.new 30, 3) := by decide +kernel
theorem dX1_lift_23 : decode cX1_lift 23 = .ok (.dup, 1) := by decide +kernel
theorem dX1_lift_24 : decode cX1_lift 24 = .ok (.ldc 85, 2) := by decide +kernel
theorem dX1_lift_26 : decode cX1_lift 26 = .ok (.invokespecial 34, 3) := by decide +kernel
theorem dX1_lift_29 : decode cX1_lift 29 = .ok (.athrow, 1) := by decide +kernel
theorem dX1_lift_30 : decode cX1_lift 30 = .ok (.aload_n 0, 1) := by decide +kernel
theorem dX1_lift_31 : decode cX1_lift 31 = .ok (.getfield 10, 3) := by decide +kernel
theorem dX1_lift_34 : decode cX1_lift 34 = .ok (.iload_n 2, 1) := by decide +kernel
theorem dX1_lift_35 : decode cX1_lift 35 = .ok (.invokevirtual 87, 3) := by decide +kernel
theorem dX1_lift_38 : decode cX1_lift 38 = .ok (.iload_n 2, 1) := by decide +kernel
theorem dX1_lift_39 : decode cX1_lift 39 = .ok (.ireturn, 1) := by decide +kernel
set_option maxRecDepth 20000 in
theorem ggX1_setUntil_X1_requireSack : GoodIn wsX1_setUntil wsX1_requireSack := goodIn_ca (goodIn_r _ [6, 7, 8, 1, 14, 15, 16, 17, 18, 19, 20, 21, 22, 23, 24, 25, 26, 27, 28, 29, 30, 31] (by decide +kernel) (by decide +kernel)) (goodIn_sub (fun _ h => List.mem_cons_of_mem _ (List.mem_append_left _ (List.mem_append_right _ h))) (by decide +kernel))
set_option maxRecDepth 20000 in
theorem gX1_setUntil_X1_requireSack : GoodIn wsX1_setUntil (wsV RX1 79 RX1 yX1_requireSack wsX1_requireSack) := goodIn_app (goodIn_of _ (by decide +kernel)) ggX1_setUntil_X1_requireSack
set_option maxRecDepth 20000 in
theorem ggX1_setUntil_X1_requireUntil : GoodIn wsX1_setUntil wsX1_requireUntil := goodIn_ca (goodIn_r _ [11, 12, 13] (by decide +kernel) (by decide +kernel)) (goodIn_sub (fun _ h => List.mem_cons_of_mem _ (List.mem_append_right _ h)) (by decide +kernel))
set_option maxRecDepth 20000 in
theorem gX1_setUntil_X1_requireUntil : GoodIn wsX1_setUntil (va_wsS RX1 67 yX1_requireUntil wsX1_requireUntil) := goodIn_app (goodIn_of _ (by decide +kernel)) ggX1_setUntil_X1_requireUntil
theorem dX1_setUntil_0 : decode cX1_setUntil 0 = .ok (.aload_n 0, 1) := by decide +kernel
theorem dX1_setUntil_1 : decode cX1_setUntil 1 = .ok (.iload_n 1, 1) := by decide +kernel
theorem dX1_setUntil_2 : decode cX1_setUntil 2 = .ok (.invokevirtual 79, 3) := by decide +kernel
theorem dX1_setUntil_5 : decode cX1_setUntil 5 = .ok (.iload_n 2, 1) := by decide +kernel
theorem dX1_setUntil_6 : decode cX1_setUntil 6 = .ok (.invokestatic 67, 3) := by decide +kernel
theorem dX1_setUntil_9 : decode cX1_setUntil 9 = .ok (.aload_n 0, 1) := by decide +kernel
theorem dX1_setUntil_10 : decode cX1_setUntil 10 = .ok (.getfield 10, 3) := by decide +kernel
theorem dX1_setUntil_13 : decode cX1_setUntil 13 = .ok (.getfield 90, 3) := by decide +kernel
theorem dX1_setUntil_16 : decode cX1_setUntil 16 = .ok (.iload_n 1, 1) := by decide +kernel
theorem dX1_setUntil_17 : decode cX1_setUntil 17 = .ok (.iaload, 1) := by decide +kernel
theorem dX1_setUntil_18 : decode cX1_setUntil 18 = .ok (.istore_n 3, 1) := by decide +kernel
theorem dX1_setUntil_19 : decode cX1_setUntil 19 = .ok (.aload_n 0, 1) := by decide +kernel
theorem dX1_setUntil_20 : decode cX1_setUntil 20 = .ok (.getfield 10, 3) := by decide +kernel
theorem dX1_setUntil_23 : decode cX1_setUntil 23 = .ok (.getfield 90, 3) := by decide +kernel
theorem dX1_setUntil_26 : decode cX1_setUntil 26 = .ok (.iload_n 1, 1) := by decide +kernel
theorem dX1_setUntil_27 : decode cX1_setUntil 27 = .ok (.iload_n 2, 1) := by decide +kernel
theorem dX1_setUntil_28 : decode cX1_setUntil 28 = .ok (.iastore, 1) := by decide +kernel
theorem dX1_setUntil_29 : decode cX1_setUntil 29 = .ok (.iload_n 3, 1) := by decide +kernel
theorem dX1_setUntil_30 : decode cX1_setUntil 30 = .ok (.ireturn, 1) := by decide +kernel
set_option maxRecDepth 20000 in
theorem ggX1_pass_X1_requireHours : GoodIn wsX1_pass wsX1_requireHours := goodIn_ca (goodIn_r _ [5, 6, 7] (by decide +kernel) (by decide +kernel)) (goodIn_sub (fun _ h => List.mem_cons_of_mem _ (List.mem_append_right _ h)) (by decide +kernel))
set_option maxRecDepth 20000 in
theorem gX1_pass_X1_requireHours : GoodIn wsX1_pass (va_wsS RX1 93 yX1_requireHours wsX1_requireHours) := goodIn_app (goodIn_of _ (by decide +kernel)) ggX1_pass_X1_requireHours
set_option maxRecDepth 20000 in
theorem ggX1_pass_X0_run : GoodIn wsX1_pass wsX0_run := goodIn_r _ [12, 13, 14, 15, 16, 17, 18, 19, 11, 20, 21, 22, 23, 24, 25, 26, 27, 28, 29, 30, 31, 32, 33, 34, 35, 36, 37, 38, 39, 40, 41, 42, 43, 44, 45, 46, 47, 48, 49, 50, 51, 52, 53, 54, 55, 56, 57, 58, 59, 60, 61, 62, 63, 64, 65, 66, 67, 68, 69, 70, 71, 72, 73, 74, 75, 78, 79, 80, 81, 82, 83, 84, 85, 86, 87, 88, 89, 90, 91, 92, 93] (by decide +kernel) (by decide +kernel)
set_option maxRecDepth 20000 in
theorem gX1_pass_X0_run : GoodIn wsX1_pass (wsV RX1 96 RX0 yX0_run wsX0_run) := goodIn_app (goodIn_of _ (by decide +kernel)) ggX1_pass_X0_run
theorem dX1_pass_0 : decode cX1_pass 0 = .ok (.iload_n 1, 1) := by decide +kernel
theorem dX1_pass_1 : decode cX1_pass 1 = .ok (.invokestatic 93, 3) := by decide +kernel
theorem dX1_pass_4 : decode cX1_pass 4 = .ok (.aload_n 0, 1) := by decide +kernel
theorem dX1_pass_5 : decode cX1_pass 5 = .ok (.getfield 10, 3) := by decide +kernel
theorem dX1_pass_8 : decode cX1_pass 8 = .ok (.iload_n 1, 1) := by decide +kernel
theorem dX1_pass_9 : decode cX1_pass 9 = .ok (.invokevirtual 96, 3) := by decide +kernel
theorem dX1_pass_12 : decode cX1_pass 12 = .ok (.ireturn, 1) := by decide +kernel
theorem dX1_hour_0 : decode cX1_hour 0 = .ok (.aload_n 0, 1) := by decide +kernel
theorem dX1_hour_1 : decode cX1_hour 1 = .ok (.getfield 10, 3) := by decide +kernel
theorem dX1_hour_4 : decode cX1_hour 4 = .ok (.getfield 99, 3) := by decide +kernel
theorem dX1_hour_7 : decode cX1_hour 7 = .ok (.ireturn, 1) := by decide +kernel
theorem dX1_stones_0 : decode cX1_stones 0 = .ok (.aload_n 0, 1) := by decide +kernel
theorem dX1_stones_1 : decode cX1_stones 1 = .ok (.getfield 10, 3) := by decide +kernel
theorem dX1_stones_4 : decode cX1_stones 4 = .ok (.getfield 26, 3) := by decide +kernel
theorem dX1_stones_7 : decode cX1_stones 7 = .ok (.ireturn, 1) := by decide +kernel
theorem dX1_sacks_0 : decode cX1_sacks 0 = .ok (.aload_n 0, 1) := by decide +kernel
theorem dX1_sacks_1 : decode cX1_sacks 1 = .ok (.getfield 10, 3) := by decide +kernel
theorem dX1_sacks_4 : decode cX1_sacks 4 = .ok (.getfield 70, 3) := by decide +kernel
theorem dX1_sacks_7 : decode cX1_sacks 7 = .ok (.ireturn, 1) := by decide +kernel
theorem dX1_rule_0 : decode cX1_rule 0 = .ok (.aload_n 0, 1) := by decide +kernel
theorem dX1_rule_1 : decode cX1_rule 1 = .ok (.getfield 10, 3) := by decide +kernel
theorem dX1_rule_4 : decode cX1_rule 4 = .ok (.getfield 54, 3) := by decide +kernel
theorem dX1_rule_7 : decode cX1_rule 7 = .ok (.ireturn, 1) := by decide +kernel
set_option maxRecDepth 20000 in
theorem ggX1_wind_X0_windOfHour : GoodIn wsX1_wind wsX0_windOfHour := goodIn_r _ [6, 7, 8, 9, 10, 11, 12, 15, 16, 17, 18, 19, 20, 21, 22, 23, 24, 25, 26, 27, 28, 29, 30] (by decide +kernel) (by decide +kernel)
set_option maxRecDepth 20000 in
theorem gX1_wind_X0_windOfHour : GoodIn wsX1_wind (wsV RX1 102 RX0 yX0_windOfHour wsX0_windOfHour) := goodIn_app (goodIn_of _ (by decide +kernel)) ggX1_wind_X0_windOfHour
theorem dX1_wind_0 : decode cX1_wind 0 = .ok (.aload_n 0, 1) := by decide +kernel
theorem dX1_wind_1 : decode cX1_wind 1 = .ok (.getfield 10, 3) := by decide +kernel
theorem dX1_wind_4 : decode cX1_wind 4 = .ok (.invokevirtual 102, 3) := by decide +kernel
theorem dX1_wind_7 : decode cX1_wind 7 = .ok (.ireturn, 1) := by decide +kernel
theorem dX1_sackOn_0 : decode cX1_sackOn 0 = .ok (.iload_n 1, 1) := by decide +kernel
theorem dX1_sackOn_1 : decode cX1_sackOn 1 = .ok (.ifCond .lt 14, 3) := by decide +kernel
theorem dX1_sackOn_4 : decode cX1_sackOn 4 = .ok (.iload_n 1, 1) := by decide +kernel
theorem dX1_sackOn_5 : decode cX1_sackOn 5 = .ok (.aload_n 0, 1) := by decide +kernel
theorem dX1_sackOn_6 : decode cX1_sackOn 6 = .ok (.getfield 10, 3) := by decide +kernel
theorem dX1_sackOn_9 : decode cX1_sackOn 9 = .ok (.getfield 26, 3) := by decide +kernel
theorem dX1_sackOn_12 : decode cX1_sackOn 12 = .ok (.if_icmp .lt 13, 3) := by decide +kernel
theorem dX1_sackOn_15 : decode cX1_sackOn 15 = .ok (.new 39, 3) := by decide +kernel
theorem dX1_sackOn_18 : decode cX1_sackOn 18 = .ok (.dup, 1) := by decide +kernel
theorem dX1_sackOn_19 : decode cX1_sackOn 19 = .ok (.ldc 106, 2) := by decide +kernel
theorem dX1_sackOn_21 : decode cX1_sackOn 21 = .ok (.invokespecial 43, 3) := by decide +kernel
theorem dX1_sackOn_24 : decode cX1_sackOn 24 = .ok (.athrow, 1) := by decide +kernel
theorem dX1_sackOn_25 : decode cX1_sackOn 25 = .ok (.aload_n 0, 1) := by decide +kernel
theorem dX1_sackOn_26 : decode cX1_sackOn 26 = .ok (.getfield 10, 3) := by decide +kernel
theorem dX1_sackOn_29 : decode cX1_sackOn 29 = .ok (.getfield 108, 3) := by decide +kernel
theorem dX1_sackOn_32 : decode cX1_sackOn 32 = .ok (.iload_n 1, 1) := by decide +kernel
theorem dX1_sackOn_33 : decode cX1_sackOn 33 = .ok (.iaload, 1) := by decide +kernel
theorem dX1_sackOn_34 : decode cX1_sackOn 34 = .ok (.ireturn, 1) := by decide +kernel
set_option maxRecDepth 20000 in
theorem ggX1_stoneOf_X1_requireSack : GoodIn wsX1_stoneOf wsX1_requireSack := goodIn_ca (goodIn_r _ [6, 7, 8, 1, 9, 10, 11, 12, 13, 14, 15, 16, 17, 18, 19, 20, 21, 22, 23, 24, 25, 26] (by decide +kernel) (by decide +kernel)) (goodIn_sub (fun _ h => List.mem_cons_of_mem _ (List.mem_append_right _ h)) (by decide +kernel))
set_option maxRecDepth 20000 in
theorem gX1_stoneOf_X1_requireSack : GoodIn wsX1_stoneOf (wsV RX1 79 RX1 yX1_requireSack wsX1_requireSack) := goodIn_app (goodIn_of _ (by decide +kernel)) ggX1_stoneOf_X1_requireSack
theorem dX1_stoneOf_0 : decode cX1_stoneOf 0 = .ok (.aload_n 0, 1) := by decide +kernel
theorem dX1_stoneOf_1 : decode cX1_stoneOf 1 = .ok (.iload_n 1, 1) := by decide +kernel
theorem dX1_stoneOf_2 : decode cX1_stoneOf 2 = .ok (.invokevirtual 79, 3) := by decide +kernel
theorem dX1_stoneOf_5 : decode cX1_stoneOf 5 = .ok (.aload_n 0, 1) := by decide +kernel
theorem dX1_stoneOf_6 : decode cX1_stoneOf 6 = .ok (.getfield 10, 3) := by decide +kernel
theorem dX1_stoneOf_9 : decode cX1_stoneOf 9 = .ok (.getfield 82, 3) := by decide +kernel
theorem dX1_stoneOf_12 : decode cX1_stoneOf 12 = .ok (.iload_n 1, 1) := by decide +kernel
theorem dX1_stoneOf_13 : decode cX1_stoneOf 13 = .ok (.iaload, 1) := by decide +kernel
theorem dX1_stoneOf_14 : decode cX1_stoneOf 14 = .ok (.ireturn, 1) := by decide +kernel
set_option maxRecDepth 20000 in
theorem ggX1_leftOf_X1_requireSack : GoodIn wsX1_leftOf wsX1_requireSack := goodIn_ca (goodIn_r _ [6, 7, 8, 1, 9, 10, 11, 12, 13, 14, 15, 16, 17, 18, 19, 20, 21, 22, 23, 24, 25, 26] (by decide +kernel) (by decide +kernel)) (goodIn_sub (fun _ h => List.mem_cons_of_mem _ (List.mem_append_right _ h)) (by decide +kernel))
set_option maxRecDepth 20000 in
theorem gX1_leftOf_X1_requireSack : GoodIn wsX1_leftOf (wsV RX1 79 RX1 yX1_requireSack wsX1_requireSack) := goodIn_app (goodIn_of _ (by decide +kernel)) ggX1_leftOf_X1_requireSack
theorem dX1_leftOf_0 : decode cX1_leftOf 0 = .ok (.aload_n 0, 1) := by decide +kernel
theorem dX1_leftOf_1 : decode cX1_leftOf 1 = .ok (.iload_n 1, 1) := by decide +kernel
theorem dX1_leftOf_2 : decode cX1_leftOf 2 = .ok (.invokevirtual 79, 3) := by decide +kernel
theorem dX1_leftOf_5 : decode cX1_leftOf 5 = .ok (.aload_n 0, 1) := by decide +kernel
theorem dX1_leftOf_6 : decode cX1_leftOf 6 = .ok (.getfield 10, 3) := by decide +kernel
theorem dX1_leftOf_9 : decode cX1_leftOf 9 = .ok (.getfield 111, 3) := by decide +kernel
theorem dX1_leftOf_12 : decode cX1_leftOf 12 = .ok (.iload_n 1, 1) := by decide +kernel
theorem dX1_leftOf_13 : decode cX1_leftOf 13 = .ok (.iaload, 1) := by decide +kernel
theorem dX1_leftOf_14 : decode cX1_leftOf 14 = .ok (.ireturn, 1) := by decide +kernel
set_option maxRecDepth 20000 in
theorem ggX1_untilOf_X1_requireSack : GoodIn wsX1_untilOf wsX1_requireSack := goodIn_ca (goodIn_r _ [6, 7, 8, 1, 9, 10, 11, 12, 13, 14, 15, 16, 17, 18, 19, 20, 21, 22, 23, 24, 25, 26] (by decide +kernel) (by decide +kernel)) (goodIn_sub (fun _ h => List.mem_cons_of_mem _ (List.mem_append_right _ h)) (by decide +kernel))
set_option maxRecDepth 20000 in
theorem gX1_untilOf_X1_requireSack : GoodIn wsX1_untilOf (wsV RX1 79 RX1 yX1_requireSack wsX1_requireSack) := goodIn_app (goodIn_of _ (by decide +kernel)) ggX1_untilOf_X1_requireSack
theorem dX1_untilOf_0 : decode cX1_untilOf 0 = .ok (.aload_n 0, 1) := by decide +kernel
theorem dX1_untilOf_1 : decode cX1_untilOf 1 = .ok (.iload_n 1, 1) := by decide +kernel
theorem dX1_untilOf_2 : decode cX1_untilOf 2 = .ok (.invokevirtual 79, 3) := by decide +kernel
theorem dX1_untilOf_5 : decode cX1_untilOf 5 = .ok (.aload_n 0, 1) := by decide +kernel
theorem dX1_untilOf_6 : decode cX1_untilOf 6 = .ok (.getfield 10, 3) := by decide +kernel
theorem dX1_untilOf_9 : decode cX1_untilOf 9 = .ok (.getfield 90, 3) := by decide +kernel
theorem dX1_untilOf_12 : decode cX1_untilOf 12 = .ok (.iload_n 1, 1) := by decide +kernel
theorem dX1_untilOf_13 : decode cX1_untilOf 13 = .ok (.iaload, 1) := by decide +kernel
theorem dX1_untilOf_14 : decode cX1_untilOf 14 = .ok (.ireturn, 1) := by decide +kernel
set_option maxRecDepth 20000 in
theorem ggX1_groundAt_X1_requireSack : GoodIn wsX1_groundAt wsX1_requireSack := goodIn_ca (goodIn_r _ [6, 7, 8, 1, 9, 10, 11, 12, 13, 14, 15, 16, 17, 18, 19, 20, 21, 22, 23, 24, 25, 26] (by decide +kernel) (by decide +kernel)) (goodIn_sub (fun _ h => List.mem_cons_of_mem _ (List.mem_append_right _ h)) (by decide +kernel))
set_option maxRecDepth 20000 in
theorem gX1_groundAt_X1_requireSack : GoodIn wsX1_groundAt (wsV RX1 79 RX1 yX1_requireSack wsX1_requireSack) := goodIn_app (goodIn_of _ (by decide +kernel)) ggX1_groundAt_X1_requireSack
theorem dX1_groundAt_0 : decode cX1_groundAt 0 = .ok (.aload_n 0, 1) := by decide +kernel
theorem dX1_groundAt_1 : decode cX1_groundAt 1 = .ok (.iload_n 1, 1) := by decide +kernel
theorem dX1_groundAt_2 : decode cX1_groundAt 2 = .ok (.invokevirtual 79, 3) := by decide +kernel
theorem dX1_groundAt_5 : decode cX1_groundAt 5 = .ok (.aload_n 0, 1) := by decide +kernel
theorem dX1_groundAt_6 : decode cX1_groundAt 6 = .ok (.getfield 10, 3) := by decide +kernel
theorem dX1_groundAt_9 : decode cX1_groundAt 9 = .ok (.getfield 114, 3) := by decide +kernel
theorem dX1_groundAt_12 : decode cX1_groundAt 12 = .ok (.iload_n 1, 1) := by decide +kernel
theorem dX1_groundAt_13 : decode cX1_groundAt 13 = .ok (.iaload, 1) := by decide +kernel
theorem dX1_groundAt_14 : decode cX1_groundAt 14 = .ok (.ireturn, 1) := by decide +kernel
theorem dX1_ground_0 : decode cX1_ground 0 = .ok (.aload_n 0, 1) := by decide +kernel
theorem dX1_ground_1 : decode cX1_ground 1 = .ok (.getfield 10, 3) := by decide +kernel
theorem dX1_ground_4 : decode cX1_ground 4 = .ok (.getfield 117, 3) := by decide +kernel
theorem dX1_ground_7 : decode cX1_ground 7 = .ok (.ireturn, 1) := by decide +kernel
theorem dX1_changes_0 : decode cX1_changes 0 = .ok (.aload_n 0, 1) := by decide +kernel
theorem dX1_changes_1 : decode cX1_changes 1 = .ok (.getfield 10, 3) := by decide +kernel
theorem dX1_changes_4 : decode cX1_changes 4 = .ok (.getfield 120, 3) := by decide +kernel
theorem dX1_changes_7 : decode cX1_changes 7 = .ok (.ireturn, 1) := by decide +kernel
set_option maxRecDepth 20000 in
theorem ggX1_first_X0_firstByRule : GoodIn wsX1_first wsX0_firstByRule := goodIn_r _ [6, 7, 8, 9, 10, 11, 5, 12, 13, 14, 15, 16, 17, 18, 19, 22, 23, 24, 25, 26, 27, 28, 29, 30, 31, 32, 33, 34, 35, 36, 37] (by decide +kernel) (by decide +kernel)
set_option maxRecDepth 20000 in
theorem gX1_first_X0_firstByRule : GoodIn wsX1_first (wsV RX1 123 RX0 yX0_firstByRule wsX0_firstByRule) := goodIn_app (goodIn_of _ (by decide +kernel)) ggX1_first_X0_firstByRule
theorem dX1_first_0 : decode cX1_first 0 = .ok (.aload_n 0, 1) := by decide +kernel
theorem dX1_first_1 : decode cX1_first 1 = .ok (.getfield 10, 3) := by decide +kernel
theorem dX1_first_4 : decode cX1_first 4 = .ok (.iconst 0, 1) := by decide +kernel
theorem dX1_first_5 : decode cX1_first 5 = .ok (.invokevirtual 123, 3) := by decide +kernel
theorem dX1_first_8 : decode cX1_first 8 = .ok (.ireturn, 1) := by decide +kernel
set_option maxRecDepth 20000 in
theorem ggX1_placeOf_X1_requireSack : GoodIn wsX1_placeOf wsX1_requireSack := goodIn_ca (goodIn_r _ [6, 7, 8, 1, 27, 28, 29, 30, 31, 32, 33, 34, 35, 36, 37, 38, 39, 40, 41, 42, 43, 44] (by decide +kernel) (by decide +kernel)) (goodIn_sub (fun _ h => List.mem_cons_of_mem _ (List.mem_append_right _ h)) (by decide +kernel))
set_option maxRecDepth 20000 in
theorem gX1_placeOf_X1_requireSack : GoodIn wsX1_placeOf (wsV RX1 79 RX1 yX1_requireSack wsX1_requireSack) := goodIn_app (goodIn_of _ (by decide +kernel)) ggX1_placeOf_X1_requireSack
set_option maxRecDepth 20000 in
theorem ggX1_placeOf_X0_isGround : GoodIn wsX1_placeOf wsX0_isGround := goodIn_r _ [13, 14, 29, 30, 31, 32, 33, 34, 35, 36, 37, 38, 39, 40, 41, 42, 43, 44] (by decide +kernel) (by decide +kernel)
set_option maxRecDepth 20000 in
theorem gX1_placeOf_X0_isGround : GoodIn wsX1_placeOf (wsV RX1 127 RX0 yX0_isGround wsX0_isGround) := goodIn_app (goodIn_of _ (by decide +kernel)) ggX1_placeOf_X0_isGround
set_option maxRecDepth 20000 in
theorem ggX1_placeOf_X0_countAhead : GoodIn wsX1_placeOf wsX0_countAhead := goodIn_r _ [18, 19, 20, 10, 11, 12, 13, 14, 21, 22, 23, 24, 25, 26, 29, 30, 31, 32, 33, 34, 35, 36, 37, 38, 39, 40, 41, 42, 43, 44] (by decide +kernel) (by decide +kernel)
set_option maxRecDepth 20000 in
theorem gX1_placeOf_X0_countAhead : GoodIn wsX1_placeOf (wsV RX1 131 RX0 yX0_countAhead wsX0_countAhead) := goodIn_app (goodIn_of _ (by decide +kernel)) ggX1_placeOf_X0_countAhead
theorem dX1_placeOf_0 : decode cX1_placeOf 0 = .ok (.aload_n 0, 1) := by decide +kernel
theorem dX1_placeOf_1 : decode cX1_placeOf 1 = .ok (.iload_n 1, 1) := by decide +kernel
theorem dX1_placeOf_2 : decode cX1_placeOf 2 = .ok (.invokevirtual 79, 3) := by decide +kernel
theorem dX1_placeOf_5 : decode cX1_placeOf 5 = .ok (.aload_n 0, 1) := by decide +kernel
theorem dX1_placeOf_6 : decode cX1_placeOf 6 = .ok (.getfield 10, 3) := by decide +kernel
theorem dX1_placeOf_9 : decode cX1_placeOf 9 = .ok (.iload_n 1, 1) := by decide +kernel
theorem dX1_placeOf_10 : decode cX1_placeOf 10 = .ok (.invokevirtual 127, 3) := by decide +kernel
theorem dX1_placeOf_13 : decode cX1_placeOf 13 = .ok (.ifCond .eq 7, 3) := by decide +kernel
theorem dX1_placeOf_16 : decode cX1_placeOf 16 = .ok (.iconst (-1), 1) := by decide +kernel
theorem dX1_placeOf_17 : decode cX1_placeOf 17 = .ok (.goto 11, 3) := by decide +kernel
theorem dX1_placeOf_20 : decode cX1_placeOf 20 = .ok (.aload_n 0, 1) := by decide +kernel
theorem dX1_placeOf_21 : decode cX1_placeOf 21 = .ok (.getfield 10, 3) := by decide +kernel
theorem dX1_placeOf_24 : decode cX1_placeOf 24 = .ok (.iload_n 1, 1) := by decide +kernel
theorem dX1_placeOf_25 : decode cX1_placeOf 25 = .ok (.invokevirtual 131, 3) := by decide +kernel
theorem dX1_placeOf_28 : decode cX1_placeOf 28 = .ok (.ireturn, 1) := by decide +kernel
set_option maxRecDepth 20000 in
theorem ggX1_leftFor_X1_requireBaker : GoodIn wsX1_leftFor wsX1_requireBaker := goodIn_ca (goodIn_r _ [5, 6, 7] (by decide +kernel) (by decide +kernel)) (goodIn_sub (fun _ h => List.mem_cons_of_mem _ (List.mem_append_right _ h)) (by decide +kernel))
set_option maxRecDepth 20000 in
theorem gX1_leftFor_X1_requireBaker : GoodIn wsX1_leftFor (va_wsS RX1 61 yX1_requireBaker wsX1_requireBaker) := goodIn_app (goodIn_of _ (by decide +kernel)) ggX1_leftFor_X1_requireBaker
theorem dX1_leftFor_0 : decode cX1_leftFor 0 = .ok (.iload_n 1, 1) := by decide +kernel
theorem dX1_leftFor_1 : decode cX1_leftFor 1 = .ok (.invokestatic 61, 3) := by decide +kernel
theorem dX1_leftFor_4 : decode cX1_leftFor 4 = .ok (.iconst 0, 1) := by decide +kernel
theorem dX1_leftFor_5 : decode cX1_leftFor 5 = .ok (.istore_n 2, 1) := by decide +kernel
theorem dX1_leftFor_6 : decode cX1_leftFor 6 = .ok (.iconst 0, 1) := by decide +kernel
theorem dX1_leftFor_7 : decode cX1_leftFor 7 = .ok (.istore_n 3, 1) := by decide +kernel
theorem dX1_leftFor_8 : decode cX1_leftFor 8 = .ok (.iload_n 3, 1) := by decide +kernel
theorem dX1_leftFor_9 : decode cX1_leftFor 9 = .ok (.aload_n 0, 1) := by decide +kernel
theorem dX1_leftFor_10 : decode cX1_leftFor 10 = .ok (.getfield 10, 3) := by decide +kernel
theorem dX1_leftFor_13 : decode cX1_leftFor 13 = .ok (.getfield 70, 3) := by decide +kernel
theorem dX1_leftFor_16 : decode cX1_leftFor 16 = .ok (.if_icmp .ge 34, 3) := by decide +kernel
theorem dX1_leftFor_19 : decode cX1_leftFor 19 = .ok (.aload_n 0, 1) := by decide +kernel
theorem dX1_leftFor_20 : decode cX1_leftFor 20 = .ok (.getfield 10, 3) := by decide +kernel
theorem dX1_leftFor_23 : decode cX1_leftFor 23 = .ok (.getfield 134, 3) := by decide +kernel
theorem dX1_leftFor_26 : decode cX1_leftFor 26 = .ok (.iload_n 3, 1) := by decide +kernel
theorem dX1_leftFor_27 : decode cX1_leftFor 27 = .ok (.iaload, 1) := by decide +kernel
theorem dX1_leftFor_28 : decode cX1_leftFor 28 = .ok (.iload_n 1, 1) := by decide +kernel
theorem dX1_leftFor_29 : decode cX1_leftFor 29 = .ok (.if_icmp .ne 15, 3) := by decide +kernel
theorem dX1_leftFor_32 : decode cX1_leftFor 32 = .ok (.iload_n 2, 1) := by decide +kernel
theorem dX1_leftFor_33 : decode cX1_leftFor 33 = .ok (.aload_n 0, 1) := by decide +kernel
theorem dX1_leftFor_34 : decode cX1_leftFor 34 = .ok (.getfield 10, 3) := by decide +kernel
theorem dX1_leftFor_37 : decode cX1_leftFor 37 = .ok (.getfield 111, 3) := by decide +kernel
theorem dX1_leftFor_40 : decode cX1_leftFor 40 = .ok (.iload_n 3, 1) := by decide +kernel
theorem dX1_leftFor_41 : decode cX1_leftFor 41 = .ok (.iaload, 1) := by decide +kernel
theorem dX1_leftFor_42 : decode cX1_leftFor 42 = .ok (.iadd, 1) := by decide +kernel
theorem dX1_leftFor_43 : decode cX1_leftFor 43 = .ok (.istore_n 2, 1) := by decide +kernel
theorem dX1_leftFor_44 : decode cX1_leftFor 44 = .ok (.iinc 3 1, 3) := by decide +kernel
theorem dX1_leftFor_47 : decode cX1_leftFor 47 = .ok (.goto (-39), 3) := by decide +kernel
theorem dX1_leftFor_50 : decode cX1_leftFor 50 = .ok (.iload_n 2, 1) := by decide +kernel
theorem dX1_leftFor_51 : decode cX1_leftFor 51 = .ok (.ireturn, 1) := by decide +kernel
set_option maxRecDepth 20000 in
theorem ggX1_late_X0_hoursLate : GoodIn wsX1_late wsX0_hoursLate := goodIn_r _ [6, 7, 8, 9, 10, 11, 12, 13, 14, 15, 16, 5, 17, 18, 21, 22, 23, 24, 25, 26, 27, 28, 29, 30, 31, 32, 33, 34, 35, 36] (by decide +kernel) (by decide +kernel)
set_option maxRecDepth 20000 in
theorem gX1_late_X0_hoursLate : GoodIn wsX1_late (wsV RX1 137 RX0 yX0_hoursLate wsX0_hoursLate) := goodIn_app (goodIn_of _ (by decide +kernel)) ggX1_late_X0_hoursLate
theorem dX1_late_0 : decode cX1_late 0 = .ok (.aload_n 0, 1) := by decide +kernel
theorem dX1_late_1 : decode cX1_late 1 = .ok (.getfield 10, 3) := by decide +kernel
theorem dX1_late_4 : decode cX1_late 4 = .ok (.invokevirtual 137, 3) := by decide +kernel
theorem dX1_late_7 : decode cX1_late 7 = .ok (.ireturn, 1) := by decide +kernel
set_option maxRecDepth 20000 in
theorem ggX1_willBeGroundAt_X1_requireSack : GoodIn wsX1_willBeGroundAt wsX1_requireSack := goodIn_ca (goodIn_r _ [6, 7, 8, 9, 90, 91, 92, 93, 94, 95, 96, 97, 98, 99, 100, 101, 102, 103, 104, 105, 106, 107] (by decide +kernel) (by decide +kernel)) (goodIn_sub (fun _ h => List.mem_cons_of_mem _ (List.mem_append_right _ h)) (by decide +kernel))
set_option maxRecDepth 20000 in
theorem gX1_willBeGroundAt_X1_requireSack : GoodIn wsX1_willBeGroundAt (wsV RX1 79 RX1 yX1_requireSack wsX1_requireSack) := goodIn_app (goodIn_of _ (by decide +kernel)) ggX1_willBeGroundAt_X1_requireSack
set_option maxRecDepth 20000 in
theorem ggX1_willBeGroundAt_X1_lookAhead : GoodIn wsX1_willBeGroundAt wsX1_lookAhead := goodIn_r _ [13, 1, 9, 14, 15, 16, 17, 18, 19, 20, 21, 22, 23, 24, 25, 26, 27, 28, 29, 30, 31, 32, 33, 34, 35, 36, 37, 38, 39, 40, 41, 42, 43, 44, 45, 46, 47, 48, 49, 50, 51, 52, 53, 54, 55, 56, 57, 58, 59, 60, 61, 62, 63, 64, 65, 66, 67, 68, 69, 70, 71, 72, 73, 74, 75, 76, 77, 78, 79, 80, 81, 82, 83, 84, 85, 86, 87, 88, 89, 90, 91, 92, 93, 94, 95, 96, 97, 98, 99, 100, 101, 102, 103, 104, 105, 106, 107] (by decide +kernel) (by decide +kernel)
set_option maxRecDepth 20000 in
theorem gX1_willBeGroundAt_X1_lookAhead : GoodIn wsX1_willBeGroundAt (wsV RX1 140 RX1 yX1_lookAhead wsX1_lookAhead) := goodIn_app (goodIn_of _ (by decide +kernel)) ggX1_willBeGroundAt_X1_lookAhead
theorem dX1_willBeGroundAt_0 : decode cX1_willBeGroundAt 0 = .ok (.aload_n 0, 1) := by decide +kernel
theorem dX1_willBeGroundAt_1 : decode cX1_willBeGroundAt 1 = .ok (.iload_n 1, 1) := by decide +kernel
theorem dX1_willBeGroundAt_2 : decode cX1_willBeGroundAt 2 = .ok (.invokevirtual 79, 3) := by decide +kernel
theorem dX1_willBeGroundAt_5 : decode cX1_willBeGroundAt 5 = .ok (.aload_n 0, 1) := by decide +kernel
theorem dX1_willBeGroundAt_6 : decode cX1_willBeGroundAt 6 = .ok (.invokevirtual 140, 3) := by decide +kernel
theorem dX1_willBeGroundAt_9 : decode cX1_willBeGroundAt 9 = .ok (.aload_n 0, 1) := by decide +kernel
theorem dX1_willBeGroundAt_10 : decode cX1_willBeGroundAt 10 = .ok (.getfield 16, 3) := by decide +kernel
theorem dX1_willBeGroundAt_13 : decode cX1_willBeGroundAt 13 = .ok (.getfield 114, 3) := by decide +kernel
theorem dX1_willBeGroundAt_16 : decode cX1_willBeGroundAt 16 = .ok (.iload_n 1, 1) := by decide +kernel
theorem dX1_willBeGroundAt_17 : decode cX1_willBeGroundAt 17 = .ok (.iaload, 1) := by decide +kernel
theorem dX1_willBeGroundAt_18 : decode cX1_willBeGroundAt 18 = .ok (.ireturn, 1) := by decide +kernel
set_option maxRecDepth 20000 in
theorem ggX1_spareOf_X1_requireSack : GoodIn wsX1_spareOf wsX1_requireSack := goodIn_ca (goodIn_r _ [6, 7, 8, 9, 91, 92, 93, 94, 95, 96, 97, 98, 99, 100, 101, 102, 103, 104, 105, 106, 107, 108] (by decide +kernel) (by decide +kernel)) (goodIn_sub (fun _ h => List.mem_cons_of_mem _ (List.mem_append_right _ h)) (by decide +kernel))
set_option maxRecDepth 20000 in
theorem gX1_spareOf_X1_requireSack : GoodIn wsX1_spareOf (wsV RX1 79 RX1 yX1_requireSack wsX1_requireSack) := goodIn_app (goodIn_of _ (by decide +kernel)) ggX1_spareOf_X1_requireSack
set_option maxRecDepth 20000 in
theorem ggX1_spareOf_X1_lookAhead : GoodIn wsX1_spareOf wsX1_lookAhead := goodIn_r _ [13, 1, 9, 14, 15, 16, 17, 18, 19, 20, 21, 22, 23, 24, 25, 26, 27, 28, 29, 30, 31, 32, 33, 34, 35, 36, 37, 38, 39, 40, 41, 42, 43, 44, 45, 46, 47, 48, 49, 50, 51, 52, 53, 54, 55, 56, 57, 58, 59, 60, 61, 62, 63, 64, 65, 66, 67, 68, 69, 70, 71, 72, 73, 74, 75, 76, 77, 78, 79, 80, 81, 82, 83, 84, 85, 86, 87, 88, 89, 91, 92, 93, 94, 95, 96, 97, 98, 99, 100, 101, 102, 103, 104, 105, 106, 107, 108] (by decide +kernel) (by decide +kernel)
set_option maxRecDepth 20000 in
theorem gX1_spareOf_X1_lookAhead : GoodIn wsX1_spareOf (wsV RX1 140 RX1 yX1_lookAhead wsX1_lookAhead) := goodIn_app (goodIn_of _ (by decide +kernel)) ggX1_spareOf_X1_lookAhead
set_option maxRecDepth 20000 in
theorem ggX1_spareOf_X0_isGround : GoodIn wsX1_spareOf wsX0_isGround := goodIn_r _ [52, 23, 93, 94, 95, 96, 97, 98, 99, 100, 101, 102, 103, 104, 105, 106, 107, 108] (by decide +kernel) (by decide +kernel)
set_option maxRecDepth 20000 in
theorem gX1_spareOf_X0_isGround : GoodIn wsX1_spareOf (wsV RX1 127 RX0 yX0_isGround wsX0_isGround) := goodIn_app (goodIn_of _ (by decide +kernel)) ggX1_spareOf_X0_isGround
theorem dX1_spareOf_0 : decode cX1_spareOf 0 = .ok (.aload_n 0, 1) := by decide +kernel
theorem dX1_spareOf_1 : decode cX1_spareOf 1 = .ok (.iload_n 1, 1) := by decide +kernel
theorem dX1_spareOf_2 : decode cX1_spareOf 2 = .ok (.invokevirtual 79, 3) := by decide +kernel
theorem dX1_spareOf_5 : decode cX1_spareOf 5 = .ok (.aload_n 0, 1) := by decide +kernel
theorem dX1_spareOf_6 : decode cX1_spareOf 6 = .ok (.invokevirtual 140, 3) := by decide +kernel
theorem dX1_spareOf_9 : decode cX1_spareOf 9 = .ok (.aload_n 0, 1) := by decide +kernel
theorem dX1_spareOf_10 : decode cX1_spareOf 10 = .ok (.getfield 16, 3) := by decide +kernel
theorem dX1_spareOf_13 : decode cX1_spareOf 13 = .ok (.iload_n 1, 1) := by decide +kernel
theorem dX1_spareOf_14 : decode cX1_spareOf 14 = .ok (.invokevirtual 127, 3) := by decide +kernel
theorem dX1_spareOf_17 : decode cX1_spareOf 17 = .ok (.ifCond .eq 25, 3) := by decide +kernel
theorem dX1_spareOf_20 : decode cX1_spareOf 20 = .ok (.aload_n 0, 1) := by decide +kernel
theorem dX1_spareOf_21 : decode cX1_spareOf 21 = .ok (.getfield 16, 3) := by decide +kernel
theorem dX1_spareOf_24 : decode cX1_spareOf 24 = .ok (.getfield 90, 3) := by decide +kernel
theorem dX1_spareOf_27 : decode cX1_spareOf 27 = .ok (.iload_n 1, 1) := by decide +kernel
theorem dX1_spareOf_28 : decode cX1_spareOf 28 = .ok (.iaload, 1) := by decide +kernel
theorem dX1_spareOf_29 : decode cX1_spareOf 29 = .ok (.aload_n 0, 1) := by decide +kernel
theorem dX1_spareOf_30 : decode cX1_spareOf 30 = .ok (.getfield 16, 3) := by decide +kernel
theorem dX1_spareOf_33 : decode cX1_spareOf 33 = .ok (.getfield 114, 3) := by decide +kernel
theorem dX1_spareOf_36 : decode cX1_spareOf 36 = .ok (.iload_n 1, 1) := by decide +kernel
theorem dX1_spareOf_37 : decode cX1_spareOf 37 = .ok (.iaload, 1) := by decide +kernel
theorem dX1_spareOf_38 : decode cX1_spareOf 38 = .ok (.isub, 1) := by decide +kernel
theorem dX1_spareOf_39 : decode cX1_spareOf 39 = .ok (.goto 6, 3) := by decide +kernel
theorem dX1_spareOf_42 : decode cX1_spareOf 42 = .ok (.sipush (-999), 3) := by decide +kernel
theorem dX1_spareOf_45 : decode cX1_spareOf 45 = .ok (.ireturn, 1) := by decide +kernel
set_option maxRecDepth 20000 in
theorem ggX1_lateWith_X1_requireRule : GoodIn wsX1_lateWith wsX1_requireRule := goodIn_ca (goodIn_r _ [6, 7, 8] (by decide +kernel) (by decide +kernel)) (goodIn_sub (fun _ h => List.mem_cons_of_mem _ (List.mem_append_right _ h)) (by decide +kernel))
set_option maxRecDepth 20000 in
theorem gX1_lateWith_X1_requireRule : GoodIn wsX1_lateWith (va_wsS RX1 50 yX1_requireRule wsX1_requireRule) := goodIn_app (goodIn_of _ (by decide +kernel)) ggX1_lateWith_X1_requireRule
set_option maxRecDepth 20000 in
theorem ggX1_lateWith_X0_become : GoodIn wsX1_lateWith wsX0_become := goodIn_r _ [13, 14, 15, 16, 17, 18, 19, 20, 21, 22, 23, 24, 25, 26, 27, 28, 29, 30, 12, 31, 94, 95, 96, 97, 98, 99, 100, 101, 102, 103, 104, 105, 106, 107, 108, 109] (by decide +kernel) (by decide +kernel)
set_option maxRecDepth 20000 in
theorem gX1_lateWith_X0_become : GoodIn wsX1_lateWith (wsV RX1 143 RX0 yX0_become wsX0_become) := goodIn_app (goodIn_of _ (by decide +kernel)) ggX1_lateWith_X0_become
set_option maxRecDepth 20000 in
theorem ggX1_lateWith_X0_run : GoodIn wsX1_lateWith wsX0_run := goodIn_r _ [35, 22, 25, 24, 28, 36, 37, 38, 12, 39, 23, 16, 40, 41, 42, 43, 44, 45, 46, 47, 18, 48, 49, 50, 51, 27, 19, 52, 53, 54, 55, 20, 56, 57, 58, 59, 60, 26, 61, 62, 63, 64, 65, 66, 67, 68, 15, 69, 70, 71, 72, 73, 74, 75, 76, 14, 77, 78, 79, 80, 81, 82, 83, 84, 21, 94, 95, 96, 97, 98, 99, 100, 101, 102, 103, 104, 105, 106, 107, 108, 109] (by decide +kernel) (by decide +kernel)
set_option maxRecDepth 20000 in
theorem gX1_lateWith_X0_run : GoodIn wsX1_lateWith (wsV RX1 96 RX0 yX0_run wsX0_run) := goodIn_app (goodIn_of _ (by decide +kernel)) ggX1_lateWith_X0_run
set_option maxRecDepth 20000 in
theorem ggX1_lateWith_X0_hoursLate : GoodIn wsX1_lateWith wsX0_hoursLate := goodIn_r _ [88, 24, 21, 19, 89, 90, 71, 91, 44, 45, 46, 12, 47, 18, 94, 95, 96, 97, 98, 99, 100, 101, 102, 103, 104, 105, 106, 107, 108, 109] (by decide +kernel) (by decide +kernel)
set_option maxRecDepth 20000 in
theorem gX1_lateWith_X0_hoursLate : GoodIn wsX1_lateWith (wsV RX1 137 RX0 yX0_hoursLate wsX0_hoursLate) := goodIn_app (goodIn_of _ (by decide +kernel)) ggX1_lateWith_X0_hoursLate
theorem dX1_lateWith_0 : decode cX1_lateWith 0 = .ok (.iload_n 1, 1) := by decide +kernel
theorem dX1_lateWith_1 : decode cX1_lateWith 1 = .ok (.invokestatic 50, 3) := by decide +kernel
theorem dX1_lateWith_4 : decode cX1_lateWith 4 = .ok (.aload_n 0, 1) := by decide +kernel
theorem dX1_lateWith_5 : decode cX1_lateWith 5 = .ok (.getfield 16, 3) := by decide +kernel
theorem dX1_lateWith_8 : decode cX1_lateWith 8 = .ok (.aload_n 0, 1) := by decide +kernel
theorem dX1_lateWith_9 : decode cX1_lateWith 9 = .ok (.getfield 10, 3) := by decide +kernel
theorem dX1_lateWith_12 : decode cX1_lateWith 12 = .ok (.invokevirtual 143, 3) := by decide +kernel
theorem dX1_lateWith_15 : decode cX1_lateWith 15 = .ok (.aload_n 0, 1) := by decide +kernel
theorem dX1_lateWith_16 : decode cX1_lateWith 16 = .ok (.getfield 16, 3) := by decide +kernel
theorem dX1_lateWith_19 : decode cX1_lateWith 19 = .ok (.iload_n 1, 1) := by decide +kernel
theorem dX1_lateWith_20 : decode cX1_lateWith 20 = .ok (.putfield 54, 3) := by decide +kernel
theorem dX1_lateWith_23 : decode cX1_lateWith 23 = .ok (.aload_n 0, 1) := by decide +kernel
theorem dX1_lateWith_24 : decode cX1_lateWith 24 = .ok (.getfield 16, 3) := by decide +kernel
theorem dX1_lateWith_27 : decode cX1_lateWith 27 = .ok (.iload_n 2, 1) := by decide +kernel
theorem dX1_lateWith_28 : decode cX1_lateWith 28 = .ok (.putfield 57, 3) := by decide +kernel
theorem dX1_lateWith_31 : decode cX1_lateWith 31 = .ok (.aload_n 0, 1) := by decide +kernel
theorem dX1_lateWith_32 : decode cX1_lateWith 32 = .ok (.getfield 16, 3) := by decide +kernel
theorem dX1_lateWith_35 : decode cX1_lateWith 35 = .ok (.sipush 200, 3) := by decide +kernel
theorem dX1_lateWith_38 : decode cX1_lateWith 38 = .ok (.invokevirtual 96, 3) := by decide +kernel
theorem dX1_lateWith_41 : decode cX1_lateWith 41 = .ok (.pop, 1) := by decide +kernel
theorem dX1_lateWith_42 : decode cX1_lateWith 42 = .ok (.aload_n 0, 1) := by decide +kernel
theorem dX1_lateWith_43 : decode cX1_lateWith 43 = .ok (.getfield 16, 3) := by decide +kernel
theorem dX1_lateWith_46 : decode cX1_lateWith 46 = .ok (.invokevirtual 137, 3) := by decide +kernel
theorem dX1_lateWith_49 : decode cX1_lateWith 49 = .ok (.sipush 200, 3) := by decide +kernel
theorem dX1_lateWith_52 : decode cX1_lateWith 52 = .ok (.aload_n 0, 1) := by decide +kernel
theorem dX1_lateWith_53 : decode cX1_lateWith 53 = .ok (.getfield 16, 3) := by decide +kernel
theorem dX1_lateWith_56 : decode cX1_lateWith 56 = .ok (.getfield 70, 3) := by decide +kernel
theorem dX1_lateWith_59 : decode cX1_lateWith 59 = .ok (.aload_n 0, 1) := by decide +kernel
theorem dX1_lateWith_60 : decode cX1_lateWith 60 = .ok (.getfield 16, 3) := by decide +kernel
theorem dX1_lateWith_63 : decode cX1_lateWith 63 = .ok (.getfield 117, 3) := by decide +kernel
theorem dX1_lateWith_66 : decode cX1_lateWith 66 = .ok (.isub, 1) := by decide +kernel
theorem dX1_lateWith_67 : decode cX1_lateWith 67 = .ok (.imul, 1) := by decide +kernel
theorem dX1_lateWith_68 : decode cX1_lateWith 68 = .ok (.iadd, 1) := by decide +kernel
theorem dX1_lateWith_69 : decode cX1_lateWith 69 = .ok (.ireturn, 1) := by decide +kernel
set_option maxRecDepth 20000 in
theorem ggX1_bestRule_X1_lateWith : GoodIn wsX1_bestRule wsX1_lateWith := goodIn_ca (goodIn_r _ [6, 7, 1, 8, 9, 5, 10, 11, 12, 13, 14, 15, 16, 17, 18, 19, 20, 21, 22, 23, 24, 25, 26, 27, 28, 29, 30, 31, 32, 33, 34, 35, 36, 37, 38, 39, 40, 41, 42, 43, 44, 45, 46, 47, 48, 49, 50, 51, 52, 53, 54, 55, 56, 57, 58, 59, 60, 61, 62, 63, 64, 65, 66, 67, 68, 69, 70, 71, 72, 73, 74, 75, 76, 77, 78, 79, 80, 81, 82, 83, 84, 85, 86, 87, 88, 89, 90, 91, 92, 93, 94, 95, 96, 97, 98, 99, 100, 101, 102, 103, 104, 105, 106, 107, 108, 109, 110, 111, 112, 113] (by decide +kernel) (by decide +kernel)) (goodIn_sub (fun _ h => List.mem_cons_of_mem _ (List.mem_append_right _ h)) (by decide +kernel))
set_option maxRecDepth 20000 in
theorem gX1_bestRule_X1_lateWith : GoodIn wsX1_bestRule (wsV RX1 147 RX1 yX1_lateWith wsX1_lateWith) := goodIn_app (goodIn_of _ (by decide +kernel)) ggX1_bestRule_X1_lateWith
theorem dX1_bestRule_0 : decode cX1_bestRule 0 = .ok (.iconst 0, 1) := by decide +kernel
theorem dX1_bestRule_1 : decode cX1_bestRule 1 = .ok (.istore_n 1, 1) := by decide +kernel
theorem dX1_bestRule_2 : decode cX1_bestRule 2 = .ok (.aload_n 0, 1) := by decide +kernel
theorem dX1_bestRule_3 : decode cX1_bestRule 3 = .ok (.iconst 0, 1) := by decide +kernel
theorem dX1_bestRule_4 : decode cX1_bestRule 4 = .ok (.aload_n 0, 1) := by decide +kernel
theorem dX1_bestRule_5 : decode cX1_bestRule 5 = .ok (.getfield 10, 3) := by decide +kernel
theorem dX1_bestRule_8 : decode cX1_bestRule 8 = .ok (.getfield 57, 3) := by decide +kernel
theorem dX1_bestRule_11 : decode cX1_bestRule 11 = .ok (.invokevirtual 147, 3) := by decide +kernel
theorem dX1_bestRule_14 : decode cX1_bestRule 14 = .ok (.istore_n 2, 1) := by decide +kernel
theorem dX1_bestRule_15 : decode cX1_bestRule 15 = .ok (.iconst 1, 1) := by decide +kernel
theorem dX1_bestRule_16 : decode cX1_bestRule 16 = .ok (.istore_n 3, 1) := by decide +kernel
theorem dX1_bestRule_17 : decode cX1_bestRule 17 = .ok (.iload_n 3, 1) := by decide +kernel
theorem dX1_bestRule_18 : decode cX1_bestRule 18 = .ok (.iconst 3, 1) := by decide +kernel
theorem dX1_bestRule_19 : decode cX1_bestRule 19 = .ok (.if_icmp .ge 34, 3) := by decide +kernel
theorem dX1_bestRule_22 : decode cX1_bestRule 22 = .ok (.aload_n 0, 1) := by decide +kernel
theorem dX1_bestRule_23 : decode cX1_bestRule 23 = .ok (.iload_n 3, 1) := by decide +kernel
theorem dX1_bestRule_24 : decode cX1_bestRule 24 = .ok (.aload_n 0, 1) := by decide +kernel
theorem dX1_bestRule_25 : decode cX1_bestRule 25 = .ok (.getfield 10, 3) := by decide +kernel
theorem dX1_bestRule_28 : decode cX1_bestRule 28 = .ok (.getfield 57, 3) := by decide +kernel
theorem dX1_bestRule_31 : decode cX1_bestRule 31 = .ok (.invokevirtual 147, 3) := by decide +kernel
theorem dX1_bestRule_34 : decode cX1_bestRule 34 = .ok (.istore 4, 2) := by decide +kernel
theorem dX1_bestRule_36 : decode cX1_bestRule 36 = .ok (.iload 4, 2) := by decide +kernel
theorem dX1_bestRule_38 : decode cX1_bestRule 38 = .ok (.iload_n 2, 1) := by decide +kernel
theorem dX1_bestRule_39 : decode cX1_bestRule 39 = .ok (.if_icmp .ge 8, 3) := by decide +kernel
theorem dX1_bestRule_42 : decode cX1_bestRule 42 = .ok (.iload_n 3, 1) := by decide +kernel
theorem dX1_bestRule_43 : decode cX1_bestRule 43 = .ok (.istore_n 1, 1) := by decide +kernel
theorem dX1_bestRule_44 : decode cX1_bestRule 44 = .ok (.iload 4, 2) := by decide +kernel
theorem dX1_bestRule_46 : decode cX1_bestRule 46 = .ok (.istore_n 2, 1) := by decide +kernel
theorem dX1_bestRule_47 : decode cX1_bestRule 47 = .ok (.iinc 3 1, 3) := by decide +kernel
theorem dX1_bestRule_50 : decode cX1_bestRule 50 = .ok (.goto (-33), 3) := by decide +kernel
theorem dX1_bestRule_53 : decode cX1_bestRule 53 = .ok (.iload_n 1, 1) := by decide +kernel
theorem dX1_bestRule_54 : decode cX1_bestRule 54 = .ok (.ireturn, 1) := by decide +kernel
set_option maxRecDepth 20000 in
theorem ggX1_wouldBeInTime_X1_requireGrain : GoodIn wsX1_wouldBeInTime wsX1_requireGrain := goodIn_ca (goodIn_r _ [6, 7, 8] (by decide +kernel) (by decide +kernel)) (goodIn_sub (fun _ h => List.mem_cons_of_mem _ (List.mem_append_right _ h)) (by decide +kernel))
set_option maxRecDepth 20000 in
theorem gX1_wouldBeInTime_X1_requireGrain : GoodIn wsX1_wouldBeInTime (va_wsS RX1 64 yX1_requireGrain wsX1_requireGrain) := goodIn_app (goodIn_of _ (by decide +kernel)) ggX1_wouldBeInTime_X1_requireGrain
set_option maxRecDepth 20000 in
theorem ggX1_wouldBeInTime_X1_requireUntil : GoodIn wsX1_wouldBeInTime wsX1_requireUntil := goodIn_ca (goodIn_r _ [11, 7, 8] (by decide +kernel) (by decide +kernel)) (goodIn_sub (fun _ h => List.mem_cons_of_mem _ (List.mem_append_right _ h)) (by decide +kernel))
set_option maxRecDepth 20000 in
theorem gX1_wouldBeInTime_X1_requireUntil : GoodIn wsX1_wouldBeInTime (va_wsS RX1 67 yX1_requireUntil wsX1_requireUntil) := goodIn_app (goodIn_of _ (by decide +kernel)) ggX1_wouldBeInTime_X1_requireUntil
set_option maxRecDepth 20000 in
theorem ggX1_wouldBeInTime_X0_become : GoodIn wsX1_wouldBeInTime wsX0_become := goodIn_r _ [16, 17, 18, 19, 20, 21, 22, 23, 24, 25, 26, 27, 28, 29, 30, 31, 32, 33, 15, 34, 95, 96, 97, 98, 99, 100, 101, 102, 103, 104, 105, 106, 107, 108, 109, 110] (by decide +kernel) (by decide +kernel)
set_option maxRecDepth 20000 in
theorem gX1_wouldBeInTime_X0_become : GoodIn wsX1_wouldBeInTime (wsV RX1 143 RX0 yX0_become wsX0_become) := goodIn_app (goodIn_of _ (by decide +kernel)) ggX1_wouldBeInTime_X0_become
set_option maxRecDepth 20000 in
theorem ggX1_wouldBeInTime_X0_storeSack : GoodIn wsX1_wouldBeInTime wsX0_storeSack := goodIn_r _ [38, 27, 20, 21, 22, 23, 24, 95, 96, 97, 98, 99, 100, 101, 102, 103, 104, 105, 106, 107, 108, 109, 110] (by decide +kernel) (by decide +kernel)
set_option maxRecDepth 20000 in
theorem gX1_wouldBeInTime_X0_storeSack : GoodIn wsX1_wouldBeInTime (wsV RX1 75 RX0 yX0_storeSack wsX0_storeSack) := goodIn_app (goodIn_of _ (by decide +kernel)) ggX1_wouldBeInTime_X0_storeSack
set_option maxRecDepth 20000 in
theorem ggX1_wouldBeInTime_X0_run : GoodIn wsX1_wouldBeInTime wsX0_run := goodIn_r _ [42, 25, 28, 27, 31, 43, 44, 45, 15, 46, 26, 19, 47, 48, 49, 50, 51, 52, 53, 54, 21, 55, 56, 57, 58, 30, 22, 59, 60, 61, 62, 23, 63, 64, 65, 66, 67, 29, 68, 69, 70, 71, 72, 73, 74, 75, 18, 76, 77, 78, 79, 80, 81, 82, 83, 17, 84, 85, 86, 87, 88, 89, 90, 91, 24, 95, 96, 97, 98, 99, 100, 101, 102, 103, 104, 105, 106, 107, 108, 109, 110] (by decide +kernel) (by decide +kernel)
set_option maxRecDepth 20000 in
theorem gX1_wouldBeInTime_X0_run : GoodIn wsX1_wouldBeInTime (wsV RX1 96 RX0 yX0_run wsX0_run) := goodIn_app (goodIn_of _ (by decide +kernel)) ggX1_wouldBeInTime_X0_run
set_option maxRecDepth 20000 in
theorem ggX1_wouldBeInTime_X0_isGround : GoodIn wsX1_wouldBeInTime wsX0_isGround := goodIn_r _ [54, 21, 95, 96, 97, 98, 99, 100, 101, 102, 103, 104, 105, 106, 107, 108, 109, 110] (by decide +kernel) (by decide +kernel)
set_option maxRecDepth 20000 in
theorem gX1_wouldBeInTime_X0_isGround : GoodIn wsX1_wouldBeInTime (wsV RX1 127 RX0 yX0_isGround wsX0_isGround) := goodIn_app (goodIn_of _ (by decide +kernel)) ggX1_wouldBeInTime_X0_isGround
theorem dX1_wouldBeInTime_0 : decode cX1_wouldBeInTime 0 = .ok (.iload_n 1, 1) := by decide +kernel
theorem dX1_wouldBeInTime_1 : decode cX1_wouldBeInTime 1 = .ok (.invokestatic 64, 3) := by decide +kernel
theorem dX1_wouldBeInTime_4 : decode cX1_wouldBeInTime 4 = .ok (.iload_n 2, 1) := by decide +kernel
theorem dX1_wouldBeInTime_5 : decode cX1_wouldBeInTime 5 = .ok (.invokestatic 67, 3) := by decide +kernel
theorem dX1_wouldBeInTime_8 : decode cX1_wouldBeInTime 8 = .ok (.aload_n 0, 1) := by decide +kernel
theorem dX1_wouldBeInTime_9 : decode cX1_wouldBeInTime 9 = .ok (.getfield 10, 3) := by decide +kernel
theorem dX1_wouldBeInTime_12 : decode cX1_wouldBeInTime 12 = .ok (.getfield 70, 3) := by decide +kernel
theorem dX1_wouldBeInTime_15 : decode cX1_wouldBeInTime 15 = .ok (.bipush 16, 2) := by decide +kernel
theorem dX1_wouldBeInTime_17 : decode cX1_wouldBeInTime 17 = .ok (.if_icmp .lt 5, 3) := by decide +kernel
theorem dX1_wouldBeInTime_20 : decode cX1_wouldBeInTime 20 = .ok (.iconst 0, 1) := by decide +kernel
theorem dX1_wouldBeInTime_21 : decode cX1_wouldBeInTime 21 = .ok (.ireturn, 1) := by decide +kernel
theorem dX1_wouldBeInTime_22 : decode cX1_wouldBeInTime 22 = .ok (.aload_n 0, 1) := by decide +kernel
theorem dX1_wouldBeInTime_23 : decode cX1_wouldBeInTime 23 = .ok (.getfield 16, 3) := by decide +kernel
theorem dX1_wouldBeInTime_26 : decode cX1_wouldBeInTime 26 = .ok (.aload_n 0, 1) := by decide +kernel
theorem dX1_wouldBeInTime_27 : decode cX1_wouldBeInTime 27 = .ok (.getfield 10, 3) := by decide +kernel
theorem dX1_wouldBeInTime_30 : decode cX1_wouldBeInTime 30 = .ok (.invokevirtual 143, 3) := by decide +kernel
theorem dX1_wouldBeInTime_33 : decode cX1_wouldBeInTime 33 = .ok (.aload_n 0, 1) := by decide +kernel
theorem dX1_wouldBeInTime_34 : decode cX1_wouldBeInTime 34 = .ok (.getfield 16, 3) := by decide +kernel
theorem dX1_wouldBeInTime_37 : decode cX1_wouldBeInTime 37 = .ok (.iconst 0, 1) := by decide +kernel
theorem dX1_wouldBeInTime_38 : decode cX1_wouldBeInTime 38 = .ok (.iload_n 1, 1) := by decide +kernel
theorem dX1_wouldBeInTime_39 : decode cX1_wouldBeInTime 39 = .ok (.iload_n 2, 1) := by decide +kernel
theorem dX1_wouldBeInTime_40 : decode cX1_wouldBeInTime 40 = .ok (.invokevirtual 75, 3) := by decide +kernel
theorem dX1_wouldBeInTime_43 : decode cX1_wouldBeInTime 43 = .ok (.istore_n 3, 1) := by decide +kernel
theorem dX1_wouldBeInTime_44 : decode cX1_wouldBeInTime 44 = .ok (.aload_n 0, 1) := by decide +kernel
theorem dX1_wouldBeInTime_45 : decode cX1_wouldBeInTime 45 = .ok (.getfield 16, 3) := by decide +kernel
theorem dX1_wouldBeInTime_48 : decode cX1_wouldBeInTime 48 = .ok (.sipush 200, 3) := by decide +kernel
theorem dX1_wouldBeInTime_51 : decode cX1_wouldBeInTime 51 = .ok (.invokevirtual 96, 3) := by decide +kernel
theorem dX1_wouldBeInTime_54 : decode cX1_wouldBeInTime 54 = .ok (.pop, 1) := by decide +kernel
theorem dX1_wouldBeInTime_55 : decode cX1_wouldBeInTime 55 = .ok (.aload_n 0, 1) := by decide +kernel
theorem dX1_wouldBeInTime_56 : decode cX1_wouldBeInTime 56 = .ok (.getfield 16, 3) := by decide +kernel
theorem dX1_wouldBeInTime_59 : decode cX1_wouldBeInTime 59 = .ok (.iload_n 3, 1) := by decide +kernel
theorem dX1_wouldBeInTime_60 : decode cX1_wouldBeInTime 60 = .ok (.invokevirtual 127, 3) := by decide +kernel
theorem dX1_wouldBeInTime_63 : decode cX1_wouldBeInTime 63 = .ok (.ifCond .eq 20, 3) := by decide +kernel
theorem dX1_wouldBeInTime_66 : decode cX1_wouldBeInTime 66 = .ok (.aload_n 0, 1) := by decide +kernel
theorem dX1_wouldBeInTime_67 : decode cX1_wouldBeInTime 67 = .ok (.getfield 16, 3) := by decide +kernel
theorem dX1_wouldBeInTime_70 : decode cX1_wouldBeInTime 70 = .ok (.getfield 114, 3) := by decide +kernel
theorem dX1_wouldBeInTime_73 : decode cX1_wouldBeInTime 73 = .ok (.iload_n 3, 1) := by decide +kernel
theorem dX1_wouldBeInTime_74 : decode cX1_wouldBeInTime 74 = .ok (.iaload, 1) := by decide +kernel
theorem dX1_wouldBeInTime_75 : decode cX1_wouldBeInTime 75 = .ok (.iload_n 2, 1) := by decide +kernel
theorem dX1_wouldBeInTime_76 : decode cX1_wouldBeInTime 76 = .ok (.if_icmp .gt 7, 3) := by decide +kernel
theorem dX1_wouldBeInTime_79 : decode cX1_wouldBeInTime 79 = .ok (.iconst 1, 1) := by decide +kernel
theorem dX1_wouldBeInTime_80 : decode cX1_wouldBeInTime 80 = .ok (.goto 4, 3) := by decide +kernel
theorem dX1_wouldBeInTime_83 : decode cX1_wouldBeInTime 83 = .ok (.iconst 0, 1) := by decide +kernel
theorem dX1_wouldBeInTime_84 : decode cX1_wouldBeInTime 84 = .ok (.ireturn, 1) := by decide +kernel
set_option maxRecDepth 20000 in
theorem ggX1_groundIn_X1_requireHours : GoodIn wsX1_groundIn wsX1_requireHours := goodIn_ca (goodIn_r _ [6, 7, 8] (by decide +kernel) (by decide +kernel)) (goodIn_sub (fun _ h => List.mem_cons_of_mem _ (List.mem_append_right _ h)) (by decide +kernel))
set_option maxRecDepth 20000 in
theorem gX1_groundIn_X1_requireHours : GoodIn wsX1_groundIn (va_wsS RX1 93 yX1_requireHours wsX1_requireHours) := goodIn_app (goodIn_of _ (by decide +kernel)) ggX1_groundIn_X1_requireHours
set_option maxRecDepth 20000 in
theorem ggX1_groundIn_X0_become : GoodIn wsX1_groundIn wsX0_become := goodIn_r _ [13, 14, 15, 16, 17, 18, 19, 20, 21, 22, 23, 24, 25, 26, 27, 28, 29, 30, 12, 31, 87, 88, 89, 90, 91, 92, 93, 94, 95, 96, 97, 98, 99, 100, 101, 102] (by decide +kernel) (by decide +kernel)
set_option maxRecDepth 20000 in
theorem gX1_groundIn_X0_become : GoodIn wsX1_groundIn (wsV RX1 143 RX0 yX0_become wsX0_become) := goodIn_app (goodIn_of _ (by decide +kernel)) ggX1_groundIn_X0_become
set_option maxRecDepth 20000 in
theorem ggX1_groundIn_X0_run : GoodIn wsX1_groundIn wsX0_run := goodIn_r _ [35, 22, 25, 24, 28, 36, 37, 38, 12, 39, 23, 16, 40, 41, 42, 43, 44, 45, 46, 47, 18, 48, 49, 50, 51, 27, 19, 52, 53, 54, 55, 20, 56, 57, 58, 59, 60, 26, 61, 62, 63, 64, 65, 66, 67, 68, 15, 69, 70, 71, 72, 73, 74, 75, 76, 14, 77, 78, 79, 80, 81, 82, 83, 84, 21, 87, 88, 89, 90, 91, 92, 93, 94, 95, 96, 97, 98, 99, 100, 101, 102] (by decide +kernel) (by decide +kernel)
set_option maxRecDepth 20000 in
theorem gX1_groundIn_X0_run : GoodIn wsX1_groundIn (wsV RX1 96 RX0 yX0_run wsX0_run) := goodIn_app (goodIn_of _ (by decide +kernel)) ggX1_groundIn_X0_run
theorem dX1_groundIn_0 : decode cX1_groundIn 0 = .ok (.iload_n 1, 1) := by decide +kernel
theorem dX1_groundIn_1 : decode cX1_groundIn 1 = .ok (.invokestatic 93, 3) := by decide +kernel
theorem dX1_groundIn_4 : decode cX1_groundIn 4 = .ok (.aload_n 0, 1) := by decide +kernel
theorem dX1_groundIn_5 : decode cX1_groundIn 5 = .ok (.getfield 16, 3) := by decide +kernel
theorem dX1_groundIn_8 : decode cX1_groundIn 8 = .ok (.aload_n 0, 1) := by decide +kernel
theorem dX1_groundIn_9 : decode cX1_groundIn 9 = .ok (.getfield 10, 3) := by decide +kernel
theorem dX1_groundIn_12 : decode cX1_groundIn 12 = .ok (.invokevirtual 143, 3) := by decide +kernel
theorem dX1_groundIn_15 : decode cX1_groundIn 15 = .ok (.aload_n 0, 1) := by decide +kernel
theorem dX1_groundIn_16 : decode cX1_groundIn 16 = .ok (.getfield 16, 3) := by decide +kernel
theorem dX1_groundIn_19 : decode cX1_groundIn 19 = .ok (.iload_n 1, 1) := by decide +kernel
theorem dX1_groundIn_20 : decode cX1_groundIn 20 = .ok (.invokevirtual 96, 3) := by decide +kernel
theorem dX1_groundIn_23 : decode cX1_groundIn 23 = .ok (.ireturn, 1) := by decide +kernel
theorem dX1_meanLeft_0 : decode cX1_meanLeft 0 = .ok (.aload_n 0, 1) := by decide +kernel
theorem dX1_meanLeft_1 : decode cX1_meanLeft 1 = .ok (.getfield 10, 3) := by decide +kernel
theorem dX1_meanLeft_4 : decode cX1_meanLeft 4 = .ok (.getfield 70, 3) := by decide +kernel
theorem dX1_meanLeft_7 : decode cX1_meanLeft 7 = .ok (.aload_n 0, 1) := by decide +kernel
theorem dX1_meanLeft_8 : decode cX1_meanLeft 8 = .ok (.getfield 10, 3) := by decide +kernel
theorem dX1_meanLeft_11 : decode cX1_meanLeft 11 = .ok (.getfield 117, 3) := by decide +kernel
theorem dX1_meanLeft_14 : decode cX1_meanLeft 14 = .ok (.isub, 1) := by decide +kernel
theorem dX1_meanLeft_15 : decode cX1_meanLeft 15 = .ok (.istore_n 1, 1) := by decide +kernel
theorem dX1_meanLeft_16 : decode cX1_meanLeft 16 = .ok (.iload_n 1, 1) := by decide +kernel
theorem dX1_meanLeft_17 : decode cX1_meanLeft 17 = .ok (.ifCond .gt 5, 3) := by decide +kernel
theorem dX1_meanLeft_20 : decode cX1_meanLeft 20 = .ok (.dconst 0, 1) := by decide +kernel
theorem dX1_meanLeft_21 : decode cX1_meanLeft 21 = .ok (.dreturn, 1) := by decide +kernel
theorem dX1_meanLeft_22 : decode cX1_meanLeft 22 = .ok (.iconst 0, 1) := by decide +kernel
theorem dX1_meanLeft_23 : decode cX1_meanLeft 23 = .ok (.istore_n 2, 1) := by decide +kernel
theorem dX1_meanLeft_24 : decode cX1_meanLeft 24 = .ok (.iconst 0, 1) := by decide +kernel
theorem dX1_meanLeft_25 : decode cX1_meanLeft 25 = .ok (.istore_n 3, 1) := by decide +kernel
theorem dX1_meanLeft_26 : decode cX1_meanLeft 26 = .ok (.iload_n 3, 1) := by decide +kernel
theorem dX1_meanLeft_27 : decode cX1_meanLeft 27 = .ok (.aload_n 0, 1) := by decide +kernel
theorem dX1_meanLeft_28 : decode cX1_meanLeft 28 = .ok (.getfield 10, 3) := by decide +kernel
theorem dX1_meanLeft_31 : decode cX1_meanLeft 31 = .ok (.getfield 70, 3) := by decide +kernel
theorem dX1_meanLeft_34 : decode cX1_meanLeft 34 = .ok (.if_icmp .ge 21, 3) := by decide +kernel
theorem dX1_meanLeft_37 : decode cX1_meanLeft 37 = .ok (.iload_n 2, 1) := by decide +kernel
theorem dX1_meanLeft_38 : decode cX1_meanLeft 38 = .ok (.aload_n 0, 1) := by decide +kernel
theorem dX1_meanLeft_39 : decode cX1_meanLeft 39 = .ok (.getfield 10, 3) := by decide +kernel
theorem dX1_meanLeft_42 : decode cX1_meanLeft 42 = .ok (.getfield 111, 3) := by decide +kernel
theorem dX1_meanLeft_45 : decode cX1_meanLeft 45 = .ok (.iload_n 3, 1) := by decide +kernel
theorem dX1_meanLeft_46 : decode cX1_meanLeft 46 = .ok (.iaload, 1) := by decide +kernel
theorem dX1_meanLeft_47 : decode cX1_meanLeft 47 = .ok (.iadd, 1) := by decide +kernel
theorem dX1_meanLeft_48 : decode cX1_meanLeft 48 = .ok (.istore_n 2, 1) := by decide +kernel
theorem dX1_meanLeft_49 : decode cX1_meanLeft 49 = .ok (.iinc 3 1, 3) := by decide +kernel
theorem dX1_meanLeft_52 : decode cX1_meanLeft 52 = .ok (.goto (-26), 3) := by decide +kernel
theorem dX1_meanLeft_55 : decode cX1_meanLeft 55 = .ok (.iload_n 2, 1) := by decide +kernel
theorem dX1_meanLeft_56 : decode cX1_meanLeft 56 = .ok (.i2d, 1) := by decide +kernel
theorem dX1_meanLeft_57 : decode cX1_meanLeft 57 = .ok (.iload_n 1, 1) := by decide +kernel
theorem dX1_meanLeft_58 : decode cX1_meanLeft 58 = .ok (.i2d, 1) := by decide +kernel
theorem dX1_meanLeft_59 : decode cX1_meanLeft 59 = .ok (.ddiv, 1) := by decide +kernel
theorem dX1_meanLeft_60 : decode cX1_meanLeft 60 = .ok (.dreturn, 1) := by decide +kernel
set_option maxRecDepth 20000 in
theorem ggX1_digest_X1_hour : GoodIn wsX1_digest wsX1_hour := goodIn_r _ [7, 2, 197, 198, 199, 200, 201, 202, 203, 204, 205, 206, 207, 208, 209, 210, 211, 212, 213, 214] (by decide +kernel) (by decide +kernel)
set_option maxRecDepth 20000 in
theorem gX1_digest_X1_hour : GoodIn wsX1_digest (wsV RX1 153 RX1 yX1_hour wsX1_hour) := goodIn_app (goodIn_of _ (by decide +kernel)) ggX1_digest_X1_hour
set_option maxRecDepth 20000 in
theorem ggX1_digest_X1_mix : GoodIn wsX1_digest wsX1_mix := goodIn_r _ [10, 11] (by decide +kernel) (by decide +kernel)
set_option maxRecDepth 20000 in
theorem gX1_digest_X1_mix : GoodIn wsX1_digest (va_wsS RX1 155 yX1_mix wsX1_mix) := goodIn_app (goodIn_of _ (by decide +kernel)) ggX1_digest_X1_mix
set_option maxRecDepth 20000 in
theorem ggX1_digest_X1_stones : GoodIn wsX1_digest wsX1_stones := goodIn_r _ [15, 2, 197, 198, 199, 200, 201, 202, 203, 204, 205, 206, 207, 208, 209, 210, 211, 212, 213, 214] (by decide +kernel) (by decide +kernel)
set_option maxRecDepth 20000 in
theorem gX1_digest_X1_stones : GoodIn wsX1_digest (wsV RX1 159 RX1 yX1_stones wsX1_stones) := goodIn_app (goodIn_of _ (by decide +kernel)) ggX1_digest_X1_stones
set_option maxRecDepth 20000 in
theorem ggX1_digest_X1_sacks : GoodIn wsX1_digest wsX1_sacks := goodIn_r _ [19, 2, 197, 198, 199, 200, 201, 202, 203, 204, 205, 206, 207, 208, 209, 210, 211, 212, 213, 214] (by decide +kernel) (by decide +kernel)
set_option maxRecDepth 20000 in
theorem gX1_digest_X1_sacks : GoodIn wsX1_digest (wsV RX1 162 RX1 yX1_sacks wsX1_sacks) := goodIn_app (goodIn_of _ (by decide +kernel)) ggX1_digest_X1_sacks
set_option maxRecDepth 20000 in
theorem ggX1_digest_X1_rule : GoodIn wsX1_digest wsX1_rule := goodIn_r _ [23, 2, 197, 198, 199, 200, 201, 202, 203, 204, 205, 206, 207, 208, 209, 210, 211, 212, 213, 214] (by decide +kernel) (by decide +kernel)
set_option maxRecDepth 20000 in
theorem gX1_digest_X1_rule : GoodIn wsX1_digest (wsV RX1 165 RX1 yX1_rule wsX1_rule) := goodIn_app (goodIn_of _ (by decide +kernel)) ggX1_digest_X1_rule
set_option maxRecDepth 20000 in
theorem ggX1_digest_X1_wind : GoodIn wsX1_digest wsX1_wind := goodIn_r _ [27, 2, 28, 29, 30, 31, 32, 33, 34, 35, 36, 37, 38, 197, 198, 199, 200, 201, 202, 203, 204, 205, 206, 207, 208, 209, 210, 211, 212, 213, 214] (by decide +kernel) (by decide +kernel)
set_option maxRecDepth 20000 in
theorem gX1_digest_X1_wind : GoodIn wsX1_digest (wsV RX1 167 RX1 yX1_wind wsX1_wind) := goodIn_app (goodIn_of _ (by decide +kernel)) ggX1_digest_X1_wind
set_option maxRecDepth 20000 in
theorem ggX1_digest_X1_ground : GoodIn wsX1_digest wsX1_ground := goodIn_r _ [42, 2, 197, 198, 199, 200, 201, 202, 203, 204, 205, 206, 207, 208, 209, 210, 211, 212, 213, 214] (by decide +kernel) (by decide +kernel)
set_option maxRecDepth 20000 in
theorem gX1_digest_X1_ground : GoodIn wsX1_digest (wsV RX1 170 RX1 yX1_ground wsX1_ground) := goodIn_app (goodIn_of _ (by decide +kernel)) ggX1_digest_X1_ground
set_option maxRecDepth 20000 in
theorem ggX1_digest_X1_changes : GoodIn wsX1_digest wsX1_changes := goodIn_r _ [46, 2, 197, 198, 199, 200, 201, 202, 203, 204, 205, 206, 207, 208, 209, 210, 211, 212, 213, 214] (by decide +kernel) (by decide +kernel)
set_option maxRecDepth 20000 in
theorem gX1_digest_X1_changes : GoodIn wsX1_digest (wsV RX1 173 RX1 yX1_changes wsX1_changes) := goodIn_app (goodIn_of _ (by decide +kernel)) ggX1_digest_X1_changes
set_option maxRecDepth 20000 in
theorem ggX1_digest_X1_first : GoodIn wsX1_digest wsX1_first := goodIn_r _ [50, 2, 51, 52, 53, 31, 54, 55, 56, 57, 58, 59, 60, 61, 62, 63, 64, 65, 66, 67, 197, 198, 199, 200, 201, 202, 203, 204, 205, 206, 207, 208, 209, 210, 211, 212, 213, 214] (by decide +kernel) (by decide +kernel)
set_option maxRecDepth 20000 in
theorem gX1_digest_X1_first : GoodIn wsX1_digest (wsV RX1 176 RX1 yX1_first wsX1_first) := goodIn_app (goodIn_of _ (by decide +kernel)) ggX1_digest_X1_first
set_option maxRecDepth 20000 in
theorem ggX1_digest_X1_late : GoodIn wsX1_digest wsX1_late := goodIn_r _ [71, 2, 72, 73, 74, 31, 75, 55, 76, 67, 77, 78, 79, 80, 57, 58, 59, 60, 61, 197, 198, 199, 200, 201, 202, 203, 204, 205, 206, 207, 208, 209, 210, 211, 212, 213, 214] (by decide +kernel) (by decide +kernel)
set_option maxRecDepth 20000 in
theorem gX1_digest_X1_late : GoodIn wsX1_digest (wsV RX1 179 RX1 yX1_late wsX1_late) := goodIn_app (goodIn_of _ (by decide +kernel)) ggX1_digest_X1_late
set_option maxRecDepth 20000 in
theorem ggX1_digest_X1_bestRule : GoodIn wsX1_digest wsX1_bestRule := goodIn_ca (goodIn_r _ [84, 2, 85, 86, 87, 6, 88, 89, 90, 91, 92, 93, 94, 95, 96, 97, 31, 98, 33, 99, 100, 101, 61, 67, 56, 76, 34, 102, 55, 103, 104, 66, 105, 106, 107, 108, 109, 110, 111, 112, 113, 114, 115, 116, 117, 118, 119, 120, 57, 58, 59, 60, 62, 63, 64, 65, 121, 122, 123, 124, 125, 126, 127, 128, 129, 130, 52, 53, 54, 131, 132, 133, 134, 135, 136, 79, 137, 138, 29, 30, 32, 35, 36, 37, 38, 139, 140, 141, 142, 72, 73, 74, 75, 77, 78, 80, 197, 198, 199, 200, 201, 202, 203, 204, 205, 206, 207, 208, 209, 210, 211, 212, 213, 214] (by decide +kernel) (by decide +kernel)) (goodIn_sub (fun _ h => List.mem_cons_of_mem _ (List.mem_append_left _ (List.mem_append_right _ h))) (by decide +kernel))
set_option maxRecDepth 20000 in
theorem gX1_digest_X1_bestRule : GoodIn wsX1_digest (wsV RX1 182 RX1 yX1_bestRule wsX1_bestRule) := goodIn_app (goodIn_of _ (by decide +kernel)) ggX1_digest_X1_bestRule
set_option maxRecDepth 20000 in
theorem ggX1_digest_X1_groundIn : GoodIn wsX1_digest wsX1_groundIn := goodIn_ca (goodIn_r _ [146, 89, 2, 147, 148, 6, 149, 93, 94, 95, 96, 97, 31, 98, 33, 99, 100, 101, 61, 67, 56, 76, 34, 102, 55, 103, 104, 66, 105, 106, 107, 108, 109, 110, 111, 112, 113, 114, 115, 116, 117, 118, 119, 120, 57, 58, 59, 60, 62, 63, 64, 65, 121, 122, 123, 124, 125, 126, 127, 128, 129, 130, 52, 53, 54, 131, 132, 133, 134, 135, 136, 79, 137, 138, 29, 30, 32, 35, 36, 37, 38, 139, 140, 141, 142, 197, 198, 199, 200, 201, 202, 203, 204, 205, 206, 207, 208, 209, 210, 211, 212, 213, 214] (by decide +kernel) (by decide +kernel)) (goodIn_sub (fun _ h => List.mem_cons_of_mem _ (List.mem_append_left _ (List.mem_append_right _ h))) (by decide +kernel))
set_option maxRecDepth 20000 in
theorem gX1_digest_X1_groundIn : GoodIn wsX1_digest (wsV RX1 185 RX1 yX1_groundIn wsX1_groundIn) := goodIn_app (goodIn_of _ (by decide +kernel)) ggX1_digest_X1_groundIn
set_option maxRecDepth 20000 in
theorem ggX1_digest_X1_sackOn : GoodIn wsX1_digest wsX1_sackOn := goodIn_ca (goodIn_r _ [153, 154, 155, 2, 197, 198, 199, 200, 201, 202, 203, 204, 205, 206, 207, 208, 209, 210, 211, 212, 213, 214] (by decide +kernel) (by decide +kernel)) (goodIn_sub (fun _ h => List.mem_cons_of_mem _ (List.mem_append_right _ h)) (by decide +kernel))
set_option maxRecDepth 20000 in
theorem gX1_digest_X1_sackOn : GoodIn wsX1_digest (wsV RX1 188 RX1 yX1_sackOn wsX1_sackOn) := goodIn_app (goodIn_of _ (by decide +kernel)) ggX1_digest_X1_sackOn
set_option maxRecDepth 20000 in
theorem ggX1_digest_X1_mixSacks : GoodIn wsX1_digest wsX1_mixSacks := goodIn_ca (goodIn_r _ [159, 2, 89, 160, 161, 162, 6, 163, 95, 96, 97, 31, 98, 33, 99, 100, 101, 61, 67, 56, 76, 34, 102, 55, 103, 104, 66, 105, 106, 107, 108, 109, 110, 111, 112, 113, 114, 115, 116, 117, 118, 119, 120, 57, 58, 59, 60, 62, 63, 64, 65, 121, 122, 123, 124, 125, 126, 127, 128, 129, 130, 52, 53, 54, 131, 132, 133, 134, 135, 136, 79, 137, 138, 29, 30, 32, 35, 36, 37, 38, 139, 140, 141, 142, 164, 165, 166, 167, 168, 169, 170, 171, 154, 155, 8, 9, 10, 11, 172, 173, 174, 175, 176, 177, 178, 179, 180, 181, 182, 183, 184, 185, 186, 187, 188, 189, 197, 198, 199, 200, 201, 202, 203, 204, 205, 206, 207, 208, 209, 210, 211, 212, 213, 214] (by decide +kernel) (by decide +kernel)) (goodIn_sub (fun _ h => List.mem_cons_of_mem _ (List.mem_append_right _ h)) (by decide +kernel))
set_option maxRecDepth 20000 in
theorem gX1_digest_X1_mixSacks : GoodIn wsX1_digest (wsV RX1 191 RX1 yX1_mixSacks wsX1_mixSacks) := goodIn_app (goodIn_of _ (by decide +kernel)) ggX1_digest_X1_mixSacks
set_option maxRecDepth 20000 in
theorem ggX1_digest_X1_leftFor : GoodIn wsX1_digest wsX1_leftFor := goodIn_ca (goodIn_r _ [193, 2, 194, 195, 6, 196, 93, 94, 197, 198, 199, 200, 201, 202, 203, 204, 205, 206, 207, 208, 209, 210, 211, 212, 213, 214] (by decide +kernel) (by decide +kernel)) (goodIn_sub (fun _ h => List.mem_cons_of_mem _ (List.mem_append_left _ (List.mem_append_right _ h))) (by decide +kernel))
set_option maxRecDepth 20000 in
theorem gX1_digest_X1_leftFor : GoodIn wsX1_digest (wsV RX1 195 RX1 yX1_leftFor wsX1_leftFor) := goodIn_app (goodIn_of _ (by decide +kernel)) ggX1_digest_X1_leftFor
theorem dX1_digest_0 : decode cX1_digest 0 = .ok (.ldc2_w 151, 3) := by decide +kernel
theorem dX1_digest_3 : decode cX1_digest 3 = .ok (.lstore_n 1, 1) := by decide +kernel
theorem dX1_digest_4 : decode cX1_digest 4 = .ok (.lload_n 1, 1) := by decide +kernel
theorem dX1_digest_5 : decode cX1_digest 5 = .ok (.aload_n 0, 1) := by decide +kernel
theorem dX1_digest_6 : decode cX1_digest 6 = .ok (.invokevirtual 153, 3) := by decide +kernel
theorem dX1_digest_9 : decode cX1_digest 9 = .ok (.invokestatic 155, 3) := by decide +kernel
theorem dX1_digest_12 : decode cX1_digest 12 = .ok (.lstore_n 1, 1) := by decide +kernel
theorem dX1_digest_13 : decode cX1_digest 13 = .ok (.lload_n 1, 1) := by decide +kernel
theorem dX1_digest_14 : decode cX1_digest 14 = .ok (.aload_n 0, 1) := by decide +kernel
theorem dX1_digest_15 : decode cX1_digest 15 = .ok (.invokevirtual 159, 3) := by decide +kernel
theorem dX1_digest_18 : decode cX1_digest 18 = .ok (.invokestatic 155, 3) := by decide +kernel
theorem dX1_digest_21 : decode cX1_digest 21 = .ok (.lstore_n 1, 1) := by decide +kernel
theorem dX1_digest_22 : decode cX1_digest 22 = .ok (.lload_n 1, 1) := by decide +kernel
theorem dX1_digest_23 : decode cX1_digest 23 = .ok (.aload_n 0, 1) := by decide +kernel
theorem dX1_digest_24 : decode cX1_digest 24 = .ok (.invokevirtual 162, 3) := by decide +kernel
theorem dX1_digest_27 : decode cX1_digest 27 = .ok (.invokestatic 155, 3) := by decide +kernel
theorem dX1_digest_30 : decode cX1_digest 30 = .ok (.lstore_n 1, 1) := by decide +kernel
theorem dX1_digest_31 : decode cX1_digest 31 = .ok (.lload_n 1, 1) := by decide +kernel
theorem dX1_digest_32 : decode cX1_digest 32 = .ok (.aload_n 0, 1) := by decide +kernel
theorem dX1_digest_33 : decode cX1_digest 33 = .ok (.invokevirtual 165, 3) := by decide +kernel
theorem dX1_digest_36 : decode cX1_digest 36 = .ok (.invokestatic 155, 3) := by decide +kernel
theorem dX1_digest_39 : decode cX1_digest 39 = .ok (.lstore_n 1, 1) := by decide +kernel
theorem dX1_digest_40 : decode cX1_digest 40 = .ok (.lload_n 1, 1) := by decide +kernel
theorem dX1_digest_41 : decode cX1_digest 41 = .ok (.aload_n 0, 1) := by decide +kernel
theorem dX1_digest_42 : decode cX1_digest 42 = .ok (.invokevirtual 167, 3) := by decide +kernel
theorem dX1_digest_45 : decode cX1_digest 45 = .ok (.invokestatic 155, 3) := by decide +kernel
theorem dX1_digest_48 : decode cX1_digest 48 = .ok (.lstore_n 1, 1) := by decide +kernel
theorem dX1_digest_49 : decode cX1_digest 49 = .ok (.lload_n 1, 1) := by decide +kernel
theorem dX1_digest_50 : decode cX1_digest 50 = .ok (.aload_n 0, 1) := by decide +kernel
theorem dX1_digest_51 : decode cX1_digest 51 = .ok (.invokevirtual 170, 3) := by decide +kernel
theorem dX1_digest_54 : decode cX1_digest 54 = .ok (.invokestatic 155, 3) := by decide +kernel
theorem dX1_digest_57 : decode cX1_digest 57 = .ok (.lstore_n 1, 1) := by decide +kernel
theorem dX1_digest_58 : decode cX1_digest 58 = .ok (.lload_n 1, 1) := by decide +kernel
theorem dX1_digest_59 : decode cX1_digest 59 = .ok (.aload_n 0, 1) := by decide +kernel
theorem dX1_digest_60 : decode cX1_digest 60 = .ok (.invokevirtual 173, 3) := by decide +kernel
theorem dX1_digest_63 : decode cX1_digest 63 = .ok (.invokestatic 155, 3) := by decide +kernel
theorem dX1_digest_66 : decode cX1_digest 66 = .ok (.lstore_n 1, 1) := by decide +kernel
theorem dX1_digest_67 : decode cX1_digest 67 = .ok (.lload_n 1, 1) := by decide +kernel
theorem dX1_digest_68 : decode cX1_digest 68 = .ok (.aload_n 0, 1) := by decide +kernel
theorem dX1_digest_69 : decode cX1_digest 69 = .ok (.invokevirtual 176, 3) := by decide +kernel
theorem dX1_digest_72 : decode cX1_digest 72 = .ok (.invokestatic 155, 3) := by decide +kernel
theorem dX1_digest_75 : decode cX1_digest 75 = .ok (.lstore_n 1, 1) := by decide +kernel
theorem dX1_digest_76 : decode cX1_digest 76 = .ok (.lload_n 1, 1) := by decide +kernel
theorem dX1_digest_77 : decode cX1_digest 77 = .ok (.aload_n 0, 1) := by decide +kernel
theorem dX1_digest_78 : decode cX1_digest 78 = .ok (.invokevirtual 179, 3) := by decide +kernel
theorem dX1_digest_81 : decode cX1_digest 81 = .ok (.invokestatic 155, 3) := by decide +kernel
theorem dX1_digest_84 : decode cX1_digest 84 = .ok (.lstore_n 1, 1) := by decide +kernel
theorem dX1_digest_85 : decode cX1_digest 85 = .ok (.lload_n 1, 1) := by decide +kernel
theorem dX1_digest_86 : decode cX1_digest 86 = .ok (.aload_n 0, 1) := by decide +kernel
theorem dX1_digest_87 : decode cX1_digest 87 = .ok (.invokevirtual 182, 3) := by decide +kernel
theorem dX1_digest_90 : decode cX1_digest 90 = .ok (.invokestatic 155, 3) := by decide +kernel
theorem dX1_digest_93 : decode cX1_digest 93 = .ok (.lstore_n 1, 1) := by decide +kernel
theorem dX1_digest_94 : decode cX1_digest 94 = .ok (.lload_n 1, 1) := by decide +kernel
theorem dX1_digest_95 : decode cX1_digest 95 = .ok (.aload_n 0, 1) := by decide +kernel
theorem dX1_digest_96 : decode cX1_digest 96 = .ok (.bipush 12, 2) := by decide +kernel
theorem dX1_digest_98 : decode cX1_digest 98 = .ok (.invokevirtual 185, 3) := by decide +kernel
theorem dX1_digest_101 : decode cX1_digest 101 = .ok (.invokestatic 155, 3) := by decide +kernel
theorem dX1_digest_104 : decode cX1_digest 104 = .ok (.lstore_n 1, 1) := by decide +kernel
theorem dX1_digest_105 : decode cX1_digest 105 = .ok (.iconst 0, 1) := by decide +kernel
theorem dX1_digest_106 : decode cX1_digest 106 = .ok (.istore_n 3, 1) := by decide +kernel
theorem dX1_digest_107 : decode cX1_digest 107 = .ok (.iload_n 3, 1) := by decide +kernel
theorem dX1_digest_108 : decode cX1_digest 108 = .ok (.aload_n 0, 1) := by decide +kernel
theorem dX1_digest_109 : decode cX1_digest 109 = .ok (.getfield 10, 3) := by decide +kernel
theorem dX1_digest_112 : decode cX1_digest 112 = .ok (.getfield 26, 3) := by decide +kernel
theorem dX1_digest_115 : decode cX1_digest 115 = .ok (.if_icmp .ge 19, 3) := by decide +kernel
theorem dX1_digest_118 : decode cX1_digest 118 = .ok (.lload_n 1, 1) := by decide +kernel
theorem dX1_digest_119 : decode cX1_digest 119 = .ok (.aload_n 0, 1) := by decide +kernel
theorem dX1_digest_120 : decode cX1_digest 120 = .ok (.iload_n 3, 1) := by decide +kernel
theorem dX1_digest_121 : decode cX1_digest 121 = .ok (.invokevirtual 188, 3) := by decide +kernel
theorem dX1_digest_124 : decode cX1_digest 124 = .ok (.invokestatic 155, 3) := by decide +kernel
theorem dX1_digest_127 : decode cX1_digest 127 = .ok (.lstore_n 1, 1) := by decide +kernel
theorem dX1_digest_128 : decode cX1_digest 128 = .ok (.iinc 3 1, 3) := by decide +kernel
theorem dX1_digest_131 : decode cX1_digest 131 = .ok (.goto (-24), 3) := by decide +kernel
theorem dX1_digest_134 : decode cX1_digest 134 = .ok (.aload_n 0, 1) := by decide +kernel
theorem dX1_digest_135 : decode cX1_digest 135 = .ok (.lload_n 1, 1) := by decide +kernel
theorem dX1_digest_136 : decode cX1_digest 136 = .ok (.invokevirtual 191, 3) := by decide +kernel
theorem dX1_digest_139 : decode cX1_digest 139 = .ok (.lstore_n 1, 1) := by decide +kernel
theorem dX1_digest_140 : decode cX1_digest 140 = .ok (.iconst 0, 1) := by decide +kernel
theorem dX1_digest_141 : decode cX1_digest 141 = .ok (.istore_n 3, 1) := by decide +kernel
theorem dX1_digest_142 : decode cX1_digest 142 = .ok (.iload_n 3, 1) := by decide +kernel
theorem dX1_digest_143 : decode cX1_digest 143 = .ok (.bipush 8, 2) := by decide +kernel
theorem dX1_digest_145 : decode cX1_digest 145 = .ok (.if_icmp .ge 19, 3) := by decide +kernel
theorem dX1_digest_148 : decode cX1_digest 148 = .ok (.lload_n 1, 1) := by decide +kernel
theorem dX1_digest_149 : decode cX1_digest 149 = .ok (.aload_n 0, 1) := by decide +kernel
theorem dX1_digest_150 : decode cX1_digest 150 = .ok (.iload_n 3, 1) := by decide +kernel
theorem dX1_digest_151 : decode cX1_digest 151 = .ok (.invokevirtual 195, 3) := by decide +kernel
theorem dX1_digest_154 : decode cX1_digest 154 = .ok (.invokestatic 155, 3) := by decide +kernel
theorem dX1_digest_157 : decode cX1_digest 157 = .ok (.lstore_n 1, 1) := by decide +kernel
theorem dX1_digest_158 : decode cX1_digest 158 = .ok (.iinc 3 1, 3) := by decide +kernel
theorem dX1_digest_161 : decode cX1_digest 161 = .ok (.goto (-19), 3) := by decide +kernel
theorem dX1_digest_164 : decode cX1_digest 164 = .ok (.lload_n 1, 1) := by decide +kernel
theorem dX1_digest_165 : decode cX1_digest 165 = .ok (.lreturn, 1) := by decide +kernel
set_option maxRecDepth 20000 in
theorem ggX1_mixSacks_X1_lookAhead : GoodIn wsX1_mixSacks wsX1_lookAhead := goodIn_r _ [7, 2, 1, 8, 9, 10, 11, 12, 13, 14, 15, 16, 17, 18, 19, 20, 21, 22, 23, 24, 25, 26, 27, 28, 29, 30, 31, 32, 33, 34, 35, 36, 37, 38, 39, 40, 41, 42, 43, 44, 45, 46, 47, 48, 49, 50, 51, 52, 53, 54, 55, 56, 57, 58, 59, 60, 61, 62, 63, 64, 65, 66, 67, 68, 69, 70, 71, 72, 73, 74, 75, 76, 77, 78, 79, 80, 81, 82, 83, 116, 117, 118, 119, 120, 121, 122, 123, 124, 125, 126, 127, 128, 129, 130, 131, 132, 133] (by decide +kernel) (by decide +kernel)
set_option maxRecDepth 20000 in
theorem gX1_mixSacks_X1_lookAhead : GoodIn wsX1_mixSacks (wsV RX1 140 RX1 yX1_lookAhead wsX1_lookAhead) := goodIn_app (goodIn_of _ (by decide +kernel)) ggX1_mixSacks_X1_lookAhead
set_option maxRecDepth 20000 in
theorem ggX1_mixSacks_X1_stoneOf : GoodIn wsX1_mixSacks wsX1_stoneOf := goodIn_ca (goodIn_r _ [87, 1, 88, 89, 90, 6, 91, 92, 93, 116, 117, 118, 119, 120, 121, 122, 123, 124, 125, 126, 127, 128, 129, 130, 131, 132, 133] (by decide +kernel) (by decide +kernel)) (goodIn_sub (fun _ h => List.mem_cons_of_mem _ (List.mem_append_right _ h)) (by decide +kernel))
set_option maxRecDepth 20000 in
theorem gX1_mixSacks_X1_stoneOf : GoodIn wsX1_mixSacks (wsV RX1 198 RX1 yX1_stoneOf wsX1_stoneOf) := goodIn_app (goodIn_of _ (by decide +kernel)) ggX1_mixSacks_X1_stoneOf
set_option maxRecDepth 20000 in
theorem ggX1_mixSacks_X1_mix : GoodIn wsX1_mixSacks wsX1_mix := goodIn_r _ [96, 97] (by decide +kernel) (by decide +kernel)
set_option maxRecDepth 20000 in
theorem gX1_mixSacks_X1_mix : GoodIn wsX1_mixSacks (va_wsS RX1 155 yX1_mix wsX1_mix) := goodIn_app (goodIn_of _ (by decide +kernel)) ggX1_mixSacks_X1_mix
set_option maxRecDepth 20000 in
theorem ggX1_mixSacks_X1_leftOf : GoodIn wsX1_mixSacks wsX1_leftOf := goodIn_ca (goodIn_r _ [101, 1, 88, 89, 90, 6, 91, 92, 93, 116, 117, 118, 119, 120, 121, 122, 123, 124, 125, 126, 127, 128, 129, 130, 131, 132, 133] (by decide +kernel) (by decide +kernel)) (goodIn_sub (fun _ h => List.mem_cons_of_mem _ (List.mem_append_right _ h)) (by decide +kernel))
set_option maxRecDepth 20000 in
theorem gX1_mixSacks_X1_leftOf : GoodIn wsX1_mixSacks (wsV RX1 201 RX1 yX1_leftOf wsX1_leftOf) := goodIn_app (goodIn_of _ (by decide +kernel)) ggX1_mixSacks_X1_leftOf
set_option maxRecDepth 20000 in
theorem ggX1_mixSacks_X1_untilOf : GoodIn wsX1_mixSacks wsX1_untilOf := goodIn_ca (goodIn_r _ [105, 1, 88, 89, 90, 6, 91, 92, 93, 116, 117, 118, 119, 120, 121, 122, 123, 124, 125, 126, 127, 128, 129, 130, 131, 132, 133] (by decide +kernel) (by decide +kernel)) (goodIn_sub (fun _ h => List.mem_cons_of_mem _ (List.mem_append_right _ h)) (by decide +kernel))
set_option maxRecDepth 20000 in
theorem gX1_mixSacks_X1_untilOf : GoodIn wsX1_mixSacks (wsV RX1 204 RX1 yX1_untilOf wsX1_untilOf) := goodIn_app (goodIn_of _ (by decide +kernel)) ggX1_mixSacks_X1_untilOf
set_option maxRecDepth 20000 in
theorem ggX1_mixSacks_X1_groundAt : GoodIn wsX1_mixSacks wsX1_groundAt := goodIn_ca (goodIn_r _ [109, 1, 88, 89, 90, 6, 91, 92, 93, 116, 117, 118, 119, 120, 121, 122, 123, 124, 125, 126, 127, 128, 129, 130, 131, 132, 133] (by decide +kernel) (by decide +kernel)) (goodIn_sub (fun _ h => List.mem_cons_of_mem _ (List.mem_append_right _ h)) (by decide +kernel))
set_option maxRecDepth 20000 in
theorem gX1_mixSacks_X1_groundAt : GoodIn wsX1_mixSacks (wsV RX1 207 RX1 yX1_groundAt wsX1_groundAt) := goodIn_app (goodIn_of _ (by decide +kernel)) ggX1_mixSacks_X1_groundAt
set_option maxRecDepth 20000 in
theorem ggX1_mixSacks_X1_placeOf : GoodIn wsX1_mixSacks wsX1_placeOf := goodIn_ca (goodIn_r _ [113, 1, 88, 89, 90, 6, 91, 92, 93, 114, 44, 45, 11, 46, 17, 115, 40, 41, 42, 23, 43, 47, 48, 49, 50, 26, 18, 116, 117, 118, 119, 120, 121, 122, 123, 124, 125, 126, 127, 128, 129, 130, 131, 132, 133] (by decide +kernel) (by decide +kernel)) (goodIn_sub (fun _ h => List.mem_cons_of_mem _ (List.mem_append_right _ h)) (by decide +kernel))
set_option maxRecDepth 20000 in
theorem gX1_mixSacks_X1_placeOf : GoodIn wsX1_mixSacks (wsV RX1 210 RX1 yX1_placeOf wsX1_placeOf) := goodIn_app (goodIn_of _ (by decide +kernel)) ggX1_mixSacks_X1_placeOf
theorem dX1_mixSacks_0 : decode cX1_mixSacks 0 = .ok (.lload_n 1, 1) := by decide +kernel
theorem dX1_mixSacks_1 : decode cX1_mixSacks 1 = .ok (.lstore_n 3, 1) := by decide +kernel
theorem dX1_mixSacks_2 : decode cX1_mixSacks 2 = .ok (.aload_n 0, 1) := by decide +kernel
theorem dX1_mixSacks_3 : decode cX1_mixSacks 3 = .ok (.invokevirtual 140, 3) := by decide +kernel
theorem dX1_mixSacks_6 : decode cX1_mixSacks 6 = .ok (.iconst 0, 1) := by decide +kernel
theorem dX1_mixSacks_7 : decode cX1_mixSacks 7 = .ok (.istore 5, 2) := by decide +kernel
theorem dX1_mixSacks_9 : decode cX1_mixSacks 9 = .ok (.iload 5, 2) := by decide +kernel
theorem dX1_mixSacks_11 : decode cX1_mixSacks 11 = .ok (.aload_n 0, 1) := by decide +kernel
theorem dX1_mixSacks_12 : decode cX1_mixSacks 12 = .ok (.getfield 10, 3) := by decide +kernel
theorem dX1_mixSacks_15 : decode cX1_mixSacks 15 = .ok (.getfield 70, 3) := by decide +kernel
theorem dX1_mixSacks_18 : decode cX1_mixSacks 18 = .ok (.if_icmp .ge 79, 3) := by decide +kernel
theorem dX1_mixSacks_21 : decode cX1_mixSacks 21 = .ok (.lload_n 3, 1) := by decide +kernel
theorem dX1_mixSacks_22 : decode cX1_mixSacks 22 = .ok (.aload_n 0, 1) := by decide +kernel
theorem dX1_mixSacks_23 : decode cX1_mixSacks 23 = .ok (.iload 5, 2) := by decide +kernel
theorem dX1_mixSacks_25 : decode cX1_mixSacks 25 = .ok (.invokevirtual 198, 3) := by decide +kernel
theorem dX1_mixSacks_28 : decode cX1_mixSacks 28 = .ok (.invokestatic 155, 3) := by decide +kernel
theorem dX1_mixSacks_31 : decode cX1_mixSacks 31 = .ok (.lstore_n 3, 1) := by decide +kernel
theorem dX1_mixSacks_32 : decode cX1_mixSacks 32 = .ok (.lload_n 3, 1) := by decide +kernel
theorem dX1_mixSacks_33 : decode cX1_mixSacks 33 = .ok (.aload_n 0, 1) := by decide +kernel
theorem dX1_mixSacks_34 : decode cX1_mixSacks 34 = .ok (.iload 5, 2) := by decide +kernel
theorem dX1_mixSacks_36 : decode cX1_mixSacks 36 = .ok (.invokevirtual 201, 3) := by decide +kernel
theorem dX1_mixSacks_39 : decode cX1_mixSacks 39 = .ok (.invokestatic 155, 3) := by decide +kernel
theorem dX1_mixSacks_42 : decode cX1_mixSacks 42 = .ok (.lstore_n 3, 1) := by decide +kernel
theorem dX1_mixSacks_43 : decode cX1_mixSacks 43 = .ok (.lload_n 3, 1) := by decide +kernel
theorem dX1_mixSacks_44 : decode cX1_mixSacks 44 = .ok (.aload_n 0, 1) := by decide +kernel
theorem dX1_mixSacks_45 : decode cX1_mixSacks 45 = .ok (.iload 5, 2) := by decide +kernel
theorem dX1_mixSacks_47 : decode cX1_mixSacks 47 = .ok (.invokevirtual 204, 3) := by decide +kernel
theorem dX1_mixSacks_50 : decode cX1_mixSacks 50 = .ok (.invokestatic 155, 3) := by decide +kernel
theorem dX1_mixSacks_53 : decode cX1_mixSacks 53 = .ok (.lstore_n 3, 1) := by decide +kernel
theorem dX1_mixSacks_54 : decode cX1_mixSacks 54 = .ok (.lload_n 3, 1) := by decide +kernel
theorem dX1_mixSacks_55 : decode cX1_mixSacks 55 = .ok (.aload_n 0, 1) := by decide +kernel
theorem dX1_mixSacks_56 : decode cX1_mixSacks 56 = .ok (.iload 5, 2) := by decide +kernel
theorem dX1_mixSacks_58 : decode cX1_mixSacks 58 = .ok (.invokevirtual 207, 3) := by decide +kernel
theorem dX1_mixSacks_61 : decode cX1_mixSacks 61 = .ok (.invokestatic 155, 3) := by decide +kernel
theorem dX1_mixSacks_64 : decode cX1_mixSacks 64 = .ok (.lstore_n 3, 1) := by decide +kernel
theorem dX1_mixSacks_65 : decode cX1_mixSacks 65 = .ok (.lload_n 3, 1) := by decide +kernel
theorem dX1_mixSacks_66 : decode cX1_mixSacks 66 = .ok (.aload_n 0, 1) := by decide +kernel
theorem dX1_mixSacks_67 : decode cX1_mixSacks 67 = .ok (.iload 5, 2) := by decide +kernel
theorem dX1_mixSacks_69 : decode cX1_mixSacks 69 = .ok (.invokevirtual 210, 3) := by decide +kernel
theorem dX1_mixSacks_72 : decode cX1_mixSacks 72 = .ok (.invokestatic 155, 3) := by decide +kernel
theorem dX1_mixSacks_75 : decode cX1_mixSacks 75 = .ok (.lstore_n 3, 1) := by decide +kernel
theorem dX1_mixSacks_76 : decode cX1_mixSacks 76 = .ok (.lload_n 3, 1) := by decide +kernel
theorem dX1_mixSacks_77 : decode cX1_mixSacks 77 = .ok (.aload_n 0, 1) := by decide +kernel
theorem dX1_mixSacks_78 : decode cX1_mixSacks 78 = .ok (.getfield 16, 3) := by decide +kernel
theorem dX1_mixSacks_81 : decode cX1_mixSacks 81 = .ok (.getfield 114, 3) := by decide +kernel
theorem dX1_mixSacks_84 : decode cX1_mixSacks 84 = .ok (.iload 5, 2) := by decide +kernel
theorem dX1_mixSacks_86 : decode cX1_mixSacks 86 = .ok (.iaload, 1) := by decide +kernel
theorem dX1_mixSacks_87 : decode cX1_mixSacks 87 = .ok (.invokestatic 155, 3) := by decide +kernel
theorem dX1_mixSacks_90 : decode cX1_mixSacks 90 = .ok (.lstore_n 3, 1) := by decide +kernel
theorem dX1_mixSacks_91 : decode cX1_mixSacks 91 = .ok (.iinc 5 1, 3) := by decide +kernel
theorem dX1_mixSacks_94 : decode cX1_mixSacks 94 = .ok (.goto (-85), 3) := by decide +kernel
theorem dX1_mixSacks_97 : decode cX1_mixSacks 97 = .ok (.lload_n 3, 1) := by decide +kernel
theorem dX1_mixSacks_98 : decode cX1_mixSacks 98 = .ok (.lreturn, 1) := by decide +kernel
theorem dX1_mix_0 : decode cX1_mix 0 = .ok (.lload_n 0, 1) := by decide +kernel
theorem dX1_mix_1 : decode cX1_mix 1 = .ok (.ldc2_w 213, 3) := by decide +kernel
theorem dX1_mix_4 : decode cX1_mix 4 = .ok (.lmul, 1) := by decide +kernel
theorem dX1_mix_5 : decode cX1_mix 5 = .ok (.iload_n 2, 1) := by decide +kernel
theorem dX1_mix_6 : decode cX1_mix 6 = .ok (.i2l, 1) := by decide +kernel
theorem dX1_mix_7 : decode cX1_mix 7 = .ok (.ladd, 1) := by decide +kernel
theorem dX1_mix_8 : decode cX1_mix 8 = .ok (.lreturn, 1) := by decide +kernel
set_option maxRecDepth 20000 in
theorem ggX1_lookAhead_X0_become : GoodIn wsX1_lookAhead wsX0_become := goodIn_r _ [7, 8, 9, 10, 11, 12, 13, 14, 15, 16, 17, 18, 19, 20, 21, 22, 23, 24, 6, 25, 81, 82, 83, 84, 85, 86, 87, 88, 89, 90, 91, 92, 93, 94, 95, 96] (by decide +kernel) (by decide +kernel)
set_option maxRecDepth 20000 in
theorem gX1_lookAhead_X0_become : GoodIn wsX1_lookAhead (wsV RX1 143 RX0 yX0_become wsX0_become) := goodIn_app (goodIn_of _ (by decide +kernel)) ggX1_lookAhead_X0_become
set_option maxRecDepth 20000 in
theorem ggX1_lookAhead_X0_run : GoodIn wsX1_lookAhead wsX0_run := goodIn_r _ [29, 16, 19, 18, 22, 30, 31, 32, 6, 33, 17, 10, 34, 35, 36, 37, 38, 39, 40, 41, 12, 42, 43, 44, 45, 21, 13, 46, 47, 48, 49, 14, 50, 51, 52, 53, 54, 20, 55, 56, 57, 58, 59, 60, 61, 62, 9, 63, 64, 65, 66, 67, 68, 69, 70, 8, 71, 72, 73, 74, 75, 76, 77, 78, 15, 81, 82, 83, 84, 85, 86, 87, 88, 89, 90, 91, 92, 93, 94, 95, 96] (by decide +kernel) (by decide +kernel)
set_option maxRecDepth 20000 in
theorem gX1_lookAhead_X0_run : GoodIn wsX1_lookAhead (wsV RX1 96 RX0 yX0_run wsX0_run) := goodIn_app (goodIn_of _ (by decide +kernel)) ggX1_lookAhead_X0_run
theorem dX1_lookAhead_0 : decode cX1_lookAhead 0 = .ok (.aload_n 0, 1) := by decide +kernel
theorem dX1_lookAhead_1 : decode cX1_lookAhead 1 = .ok (.getfield 16, 3) := by decide +kernel
theorem dX1_lookAhead_4 : decode cX1_lookAhead 4 = .ok (.aload_n 0, 1) := by decide +kernel
theorem dX1_lookAhead_5 : decode cX1_lookAhead 5 = .ok (.getfield 10, 3) := by decide +kernel
theorem dX1_lookAhead_8 : decode cX1_lookAhead 8 = .ok (.invokevirtual 143, 3) := by decide +kernel
theorem dX1_lookAhead_11 : decode cX1_lookAhead 11 = .ok (.aload_n 0, 1) := by decide +kernel
theorem dX1_lookAhead_12 : decode cX1_lookAhead 12 = .ok (.getfield 16, 3) := by decide +kernel
theorem dX1_lookAhead_15 : decode cX1_lookAhead 15 = .ok (.sipush 200, 3) := by decide +kernel
theorem dX1_lookAhead_18 : decode cX1_lookAhead 18 = .ok (.invokevirtual 96, 3) := by decide +kernel
theorem dX1_lookAhead_21 : decode cX1_lookAhead 21 = .ok (.pop, 1) := by decide +kernel
theorem dX1_lookAhead_22 : decode cX1_lookAhead 22 = .ok (.return_, 1) := by decide +kernel
theorem dX1_requireSack_0 : decode cX1_requireSack 0 = .ok (.iload_n 1, 1) := by decide +kernel
theorem dX1_requireSack_1 : decode cX1_requireSack 1 = .ok (.ifCond .lt 14, 3) := by decide +kernel
theorem dX1_requireSack_4 : decode cX1_requireSack 4 = .ok (.iload_n 1, 1) := by decide +kernel
theorem dX1_requireSack_5 : decode cX1_requireSack 5 = .ok (.aload_n 0, 1) := by decide +kernel
theorem dX1_requireSack_6 : decode cX1_requireSack 6 = .ok (.getfield 10, 3) := by decide +kernel
theorem dX1_requireSack_9 : decode cX1_requireSack 9 = .ok (.getfield 70, 3) := by decide +kernel
theorem dX1_requireSack_12 : decode cX1_requireSack 12 = .ok (.if_icmp .lt 13, 3) := by decide +kernel
theorem dX1_requireSack_15 : decode cX1_requireSack 15 = .ok (.new 39, 3) := by decide +kernel
theorem dX1_requireSack_18 : decode cX1_requireSack 18 = .ok (.dup, 1) := by decide +kernel
theorem dX1_requireSack_19 : decode cX1_requireSack 19 = .ok (.ldc 215, 2) := by decide +kernel
theorem dX1_requireSack_21 : decode cX1_requireSack 21 = .ok (.invokespecial 43, 3) := by decide +kernel
theorem dX1_requireSack_24 : decode cX1_requireSack 24 = .ok (.athrow, 1) := by decide +kernel
theorem dX1_requireSack_25 : decode cX1_requireSack 25 = .ok (.return_, 1) := by decide +kernel
theorem dX1_requireRule_0 : decode cX1_requireRule 0 = .ok (.iload_n 0, 1) := by decide +kernel
theorem dX1_requireRule_1 : decode cX1_requireRule 1 = .ok (.ifCond .lt 8, 3) := by decide +kernel
theorem dX1_requireRule_4 : decode cX1_requireRule 4 = .ok (.iload_n 0, 1) := by decide +kernel
theorem dX1_requireRule_5 : decode cX1_requireRule 5 = .ok (.iconst 3, 1) := by decide +kernel
theorem dX1_requireRule_6 : decode cX1_requireRule 6 = .ok (.if_icmp .lt 13, 3) := by decide +kernel
theorem dX1_requireRule_9 : decode cX1_requireRule 9 = .ok (.new 19, 3) := by decide +kernel
theorem dX1_requireRule_12 : decode cX1_requireRule 12 = .ok (.dup, 1) := by decide +kernel
theorem dX1_requireRule_13 : decode cX1_requireRule 13 = .ok (.ldc 217, 2) := by decide +kernel
theorem dX1_requireRule_15 : decode cX1_requireRule 15 = .ok (.invokespecial 23, 3) := by decide +kernel
theorem dX1_requireRule_18 : decode cX1_requireRule 18 = .ok (.athrow, 1) := by decide +kernel
theorem dX1_requireRule_19 : decode cX1_requireRule 19 = .ok (.return_, 1) := by decide +kernel
theorem dX1_requireBaker_0 : decode cX1_requireBaker 0 = .ok (.iload_n 0, 1) := by decide +kernel
theorem dX1_requireBaker_1 : decode cX1_requireBaker 1 = .ok (.ifCond .lt 9, 3) := by decide +kernel
theorem dX1_requireBaker_4 : decode cX1_requireBaker 4 = .ok (.iload_n 0, 1) := by decide +kernel
theorem dX1_requireBaker_5 : decode cX1_requireBaker 5 = .ok (.bipush 8, 2) := by decide +kernel
theorem dX1_requireBaker_7 : decode cX1_requireBaker 7 = .ok (.if_icmp .lt 13, 3) := by decide +kernel
theorem dX1_requireBaker_10 : decode cX1_requireBaker 10 = .ok (.new 19, 3) := by decide +kernel
theorem dX1_requireBaker_13 : decode cX1_requireBaker 13 = .ok (.dup, 1) := by decide +kernel
theorem dX1_requireBaker_14 : decode cX1_requireBaker 14 = .ok (.ldc 219, 2) := by decide +kernel
theorem dX1_requireBaker_16 : decode cX1_requireBaker 16 = .ok (.invokespecial 23, 3) := by decide +kernel
theorem dX1_requireBaker_19 : decode cX1_requireBaker 19 = .ok (.athrow, 1) := by decide +kernel
theorem dX1_requireBaker_20 : decode cX1_requireBaker 20 = .ok (.return_, 1) := by decide +kernel
theorem dX1_requireGrain_0 : decode cX1_requireGrain 0 = .ok (.iload_n 0, 1) := by decide +kernel
theorem dX1_requireGrain_1 : decode cX1_requireGrain 1 = .ok (.iconst 1, 1) := by decide +kernel
theorem dX1_requireGrain_2 : decode cX1_requireGrain 2 = .ok (.if_icmp .lt 9, 3) := by decide +kernel
theorem dX1_requireGrain_5 : decode cX1_requireGrain 5 = .ok (.iload_n 0, 1) := by decide +kernel
theorem dX1_requireGrain_6 : decode cX1_requireGrain 6 = .ok (.bipush 60, 2) := by decide +kernel
theorem dX1_requireGrain_8 : decode cX1_requireGrain 8 = .ok (.if_icmp .le 13, 3) := by decide +kernel
theorem dX1_requireGrain_11 : decode cX1_requireGrain 11 = .ok (.new 19, 3) := by decide +kernel
theorem dX1_requireGrain_14 : decode cX1_requireGrain 14 = .ok (.dup, 1) := by decide +kernel
theorem dX1_requireGrain_15 : decode cX1_requireGrain 15 = .ok (.ldc 221, 2) := by decide +kernel
theorem dX1_requireGrain_17 : decode cX1_requireGrain 17 = .ok (.invokespecial 23, 3) := by decide +kernel
theorem dX1_requireGrain_20 : decode cX1_requireGrain 20 = .ok (.athrow, 1) := by decide +kernel
theorem dX1_requireGrain_21 : decode cX1_requireGrain 21 = .ok (.return_, 1) := by decide +kernel
theorem dX1_requireUntil_0 : decode cX1_requireUntil 0 = .ok (.iload_n 0, 1) := by decide +kernel
theorem dX1_requireUntil_1 : decode cX1_requireUntil 1 = .ok (.iconst 1, 1) := by decide +kernel
theorem dX1_requireUntil_2 : decode cX1_requireUntil 2 = .ok (.if_icmp .lt 10, 3) := by decide +kernel
theorem dX1_requireUntil_5 : decode cX1_requireUntil 5 = .ok (.iload_n 0, 1) := by decide +kernel
theorem dX1_requireUntil_6 : decode cX1_requireUntil 6 = .ok (.sipush 200, 3) := by decide +kernel
theorem dX1_requireUntil_9 : decode cX1_requireUntil 9 = .ok (.if_icmp .le 13, 3) := by decide +kernel
theorem dX1_requireUntil_12 : decode cX1_requireUntil 12 = .ok (.new 19, 3) := by decide +kernel
theorem dX1_requireUntil_15 : decode cX1_requireUntil 15 = .ok (.dup, 1) := by decide +kernel
theorem dX1_requireUntil_16 : decode cX1_requireUntil 16 = .ok (.ldc 223, 2) := by decide +kernel
theorem dX1_requireUntil_18 : decode cX1_requireUntil 18 = .ok (.invokespecial 23, 3) := by decide +kernel
theorem dX1_requireUntil_21 : decode cX1_requireUntil 21 = .ok (.athrow, 1) := by decide +kernel
theorem dX1_requireUntil_22 : decode cX1_requireUntil 22 = .ok (.return_, 1) := by decide +kernel
theorem dX1_requireHours_0 : decode cX1_requireHours 0 = .ok (.iload_n 0, 1) := by decide +kernel
theorem dX1_requireHours_1 : decode cX1_requireHours 1 = .ok (.iconst 1, 1) := by decide +kernel
theorem dX1_requireHours_2 : decode cX1_requireHours 2 = .ok (.if_icmp .lt 9, 3) := by decide +kernel
theorem dX1_requireHours_5 : decode cX1_requireHours 5 = .ok (.iload_n 0, 1) := by decide +kernel
theorem dX1_requireHours_6 : decode cX1_requireHours 6 = .ok (.bipush 60, 2) := by decide +kernel
theorem dX1_requireHours_8 : decode cX1_requireHours 8 = .ok (.if_icmp .le 13, 3) := by decide +kernel
theorem dX1_requireHours_11 : decode cX1_requireHours 11 = .ok (.new 19, 3) := by decide +kernel
theorem dX1_requireHours_14 : decode cX1_requireHours 14 = .ok (.dup, 1) := by decide +kernel
theorem dX1_requireHours_15 : decode cX1_requireHours 15 = .ok (.ldc 225, 2) := by decide +kernel
theorem dX1_requireHours_17 : decode cX1_requireHours 17 = .ok (.invokespecial 23, 3) := by decide +kernel
theorem dX1_requireHours_20 : decode cX1_requireHours 20 = .ok (.athrow, 1) := by decide +kernel
theorem dX1_requireHours_21 : decode cX1_requireHours 21 = .ok (.return_, 1) := by decide +kernel
theorem dX2_init_0 : decode cX2_init 0 = .ok (.aload_n 0, 1) := by decide +kernel
theorem dX2_init_1 : decode cX2_init 1 = .ok (.invokespecial 1, 3) := by decide +kernel
theorem dX2_init_4 : decode cX2_init 4 = .ok (.aload_n 0, 1) := by decide +kernel
theorem dX2_init_5 : decode cX2_init 5 = .ok (.iconst 4, 1) := by decide +kernel
theorem dX2_init_6 : decode cX2_init 6 = .ok (.newarray .int, 2) := by decide +kernel
theorem dX2_init_8 : decode cX2_init 8 = .ok (.putfield 9, 3) := by decide +kernel
theorem dX2_init_11 : decode cX2_init 11 = .ok (.aload_n 0, 1) := by decide +kernel
theorem dX2_init_12 : decode cX2_init 12 = .ok (.bipush 12, 2) := by decide +kernel
theorem dX2_init_14 : decode cX2_init 14 = .ok (.newarray .int, 2) := by decide +kernel
theorem dX2_init_16 : decode cX2_init 16 = .ok (.putfield 13, 3) := by decide +kernel
theorem dX2_init_19 : decode cX2_init 19 = .ok (.aload_n 0, 1) := by decide +kernel
theorem dX2_init_20 : decode cX2_init 20 = .ok (.bipush 16, 2) := by decide +kernel
theorem dX2_init_22 : decode cX2_init 22 = .ok (.newarray .int, 2) := by decide +kernel
theorem dX2_init_24 : decode cX2_init 24 = .ok (.putfield 16, 3) := by decide +kernel
theorem dX2_init_27 : decode cX2_init 27 = .ok (.aload_n 0, 1) := by decide +kernel
theorem dX2_init_28 : decode cX2_init 28 = .ok (.bipush 16, 2) := by decide +kernel
theorem dX2_init_30 : decode cX2_init 30 = .ok (.newarray .int, 2) := by decide +kernel
theorem dX2_init_32 : decode cX2_init 32 = .ok (.putfield 19, 3) := by decide +kernel
theorem dX2_init_35 : decode cX2_init 35 = .ok (.aload_n 0, 1) := by decide +kernel
theorem dX2_init_36 : decode cX2_init 36 = .ok (.bipush 51, 2) := by decide +kernel
theorem dX2_init_38 : decode cX2_init 38 = .ok (.newarray .int, 2) := by decide +kernel
theorem dX2_init_40 : decode cX2_init 40 = .ok (.putfield 22, 3) := by decide +kernel
theorem dX2_init_43 : decode cX2_init 43 = .ok (.aload_n 0, 1) := by decide +kernel
theorem dX2_init_44 : decode cX2_init 44 = .ok (.bipush 51, 2) := by decide +kernel
theorem dX2_init_46 : decode cX2_init 46 = .ok (.newarray .int, 2) := by decide +kernel
theorem dX2_init_48 : decode cX2_init 48 = .ok (.putfield 25, 3) := by decide +kernel
theorem dX2_init_51 : decode cX2_init 51 = .ok (.aload_n 0, 1) := by decide +kernel
theorem dX2_init_52 : decode cX2_init 52 = .ok (.iconst 4, 1) := by decide +kernel
theorem dX2_init_53 : decode cX2_init 53 = .ok (.newarray .int, 2) := by decide +kernel
theorem dX2_init_55 : decode cX2_init 55 = .ok (.putfield 28, 3) := by decide +kernel
theorem dX2_init_58 : decode cX2_init 58 = .ok (.iconst 0, 1) := by decide +kernel
theorem dX2_init_59 : decode cX2_init 59 = .ok (.istore_n 1, 1) := by decide +kernel
theorem dX2_init_60 : decode cX2_init 60 = .ok (.iload_n 1, 1) := by decide +kernel
theorem dX2_init_61 : decode cX2_init 61 = .ok (.bipush 12, 2) := by decide +kernel
theorem dX2_init_63 : decode cX2_init 63 = .ok (.if_icmp .ge 16, 3) := by decide +kernel
theorem dX2_init_66 : decode cX2_init 66 = .ok (.aload_n 0, 1) := by decide +kernel
theorem dX2_init_67 : decode cX2_init 67 = .ok (.getfield 13, 3) := by decide +kernel
theorem dX2_init_70 : decode cX2_init 70 = .ok (.iload_n 1, 1) := by decide +kernel
theorem dX2_init_71 : decode cX2_init 71 = .ok (.iconst 5, 1) := by decide +kernel
theorem dX2_init_72 : decode cX2_init 72 = .ok (.iastore, 1) := by decide +kernel
theorem dX2_init_73 : decode cX2_init 73 = .ok (.iinc 1 1, 3) := by decide +kernel
theorem dX2_init_76 : decode cX2_init 76 = .ok (.goto (-16), 3) := by decide +kernel
theorem dX2_init_79 : decode cX2_init 79 = .ok (.return_, 1) := by decide +kernel
theorem dX2_thrown_0 : decode cX2_thrown 0 = .ok (.aload_n 0, 1) := by decide +kernel
theorem dX2_thrown_1 : decode cX2_thrown 1 = .ok (.getfield 31, 3) := by decide +kernel
theorem dX2_thrown_4 : decode cX2_thrown 4 = .ok (.ireturn, 1) := by decide +kernel
theorem dX2_fail_0 : decode cX2_fail 0 = .ok (.aload_n 0, 1) := by decide +kernel
theorem dX2_fail_1 : decode cX2_fail 1 = .ok (.iload_n 1, 1) := by decide +kernel
theorem dX2_fail_2 : decode cX2_fail 2 = .ok (.putfield 31, 3) := by decide +kernel
theorem dX2_fail_5 : decode cX2_fail 5 = .ok (.iconst 0, 1) := by decide +kernel
theorem dX2_fail_6 : decode cX2_fail 6 = .ok (.ireturn, 1) := by decide +kernel
theorem dX2_told_0 : decode cX2_told 0 = .ok (.aload_n 0, 1) := by decide +kernel
theorem dX2_told_1 : decode cX2_told 1 = .ok (.iconst 0, 1) := by decide +kernel
theorem dX2_told_2 : decode cX2_told 2 = .ok (.putfield 31, 3) := by decide +kernel
theorem dX2_told_5 : decode cX2_told 5 = .ok (.iload_n 1, 1) := by decide +kernel
theorem dX2_told_6 : decode cX2_told 6 = .ok (.ireturn, 1) := by decide +kernel
theorem dX2_isIn_0 : decode cX2_isIn 0 = .ok (.iload_n 0, 1) := by decide +kernel
theorem dX2_isIn_1 : decode cX2_isIn 1 = .ok (.iload_n 1, 1) := by decide +kernel
theorem dX2_isIn_2 : decode cX2_isIn 2 = .ok (.if_icmp .lt 12, 3) := by decide +kernel
theorem dX2_isIn_5 : decode cX2_isIn 5 = .ok (.iload_n 0, 1) := by decide +kernel
theorem dX2_isIn_6 : decode cX2_isIn 6 = .ok (.iload_n 2, 1) := by decide +kernel
theorem dX2_isIn_7 : decode cX2_isIn 7 = .ok (.if_icmp .gt 7, 3) := by decide +kernel
theorem dX2_isIn_10 : decode cX2_isIn 10 = .ok (.iconst 1, 1) := by decide +kernel
theorem dX2_isIn_11 : decode cX2_isIn 11 = .ok (.goto 4, 3) := by decide +kernel
theorem dX2_isIn_14 : decode cX2_isIn 14 = .ok (.iconst 0, 1) := by decide +kernel
theorem dX2_isIn_15 : decode cX2_isIn 15 = .ok (.ireturn, 1) := by decide +kernel
set_option maxRecDepth 20000 in
theorem ggX2_isStone_X2_isIn : GoodIn wsX2_isStone wsX2_isIn := goodIn_r _ [5] (by decide +kernel) (by decide +kernel)
set_option maxRecDepth 20000 in
theorem gX2_isStone_X2_isIn : GoodIn wsX2_isStone (va_wsS RX2 38 yX2_isIn wsX2_isIn) := goodIn_app (goodIn_of _ (by decide +kernel)) ggX2_isStone_X2_isIn
theorem dX2_isStone_0 : decode cX2_isStone 0 = .ok (.iload_n 1, 1) := by decide +kernel
theorem dX2_isStone_1 : decode cX2_isStone 1 = .ok (.iconst 0, 1) := by decide +kernel
theorem dX2_isStone_2 : decode cX2_isStone 2 = .ok (.aload_n 0, 1) := by decide +kernel
theorem dX2_isStone_3 : decode cX2_isStone 3 = .ok (.getfield 35, 3) := by decide +kernel
theorem dX2_isStone_6 : decode cX2_isStone 6 = .ok (.iconst 1, 1) := by decide +kernel
theorem dX2_isStone_7 : decode cX2_isStone 7 = .ok (.isub, 1) := by decide +kernel
theorem dX2_isStone_8 : decode cX2_isStone 8 = .ok (.invokestatic 38, 3) := by decide +kernel
theorem dX2_isStone_11 : decode cX2_isStone 11 = .ok (.ireturn, 1) := by decide +kernel
set_option maxRecDepth 20000 in
theorem ggX2_isSack_X2_isIn : GoodIn wsX2_isSack wsX2_isIn := goodIn_r _ [5] (by decide +kernel) (by decide +kernel)
set_option maxRecDepth 20000 in
theorem gX2_isSack_X2_isIn : GoodIn wsX2_isSack (va_wsS RX2 38 yX2_isIn wsX2_isIn) := goodIn_app (goodIn_of _ (by decide +kernel)) ggX2_isSack_X2_isIn
theorem dX2_isSack_0 : decode cX2_isSack 0 = .ok (.iload_n 1, 1) := by decide +kernel
theorem dX2_isSack_1 : decode cX2_isSack 1 = .ok (.iconst 0, 1) := by decide +kernel
theorem dX2_isSack_2 : decode cX2_isSack 2 = .ok (.aload_n 0, 1) := by decide +kernel
theorem dX2_isSack_3 : decode cX2_isSack 3 = .ok (.getfield 42, 3) := by decide +kernel
theorem dX2_isSack_6 : decode cX2_isSack 6 = .ok (.iconst 1, 1) := by decide +kernel
theorem dX2_isSack_7 : decode cX2_isSack 7 = .ok (.isub, 1) := by decide +kernel
theorem dX2_isSack_8 : decode cX2_isSack 8 = .ok (.invokestatic 38, 3) := by decide +kernel
theorem dX2_isSack_11 : decode cX2_isSack 11 = .ok (.ireturn, 1) := by decide +kernel
theorem dX2_keep_0 : decode cX2_keep 0 = .ok (.aload_n 0, 1) := by decide +kernel
theorem dX2_keep_1 : decode cX2_keep 1 = .ok (.getfield 22, 3) := by decide +kernel
theorem dX2_keep_4 : decode cX2_keep 4 = .ok (.iconst 0, 1) := by decide +kernel
theorem dX2_keep_5 : decode cX2_keep 5 = .ok (.aload_n 0, 1) := by decide +kernel
theorem dX2_keep_6 : decode cX2_keep 6 = .ok (.getfield 25, 3) := by decide +kernel
theorem dX2_keep_9 : decode cX2_keep 9 = .ok (.iconst 0, 1) := by decide +kernel
theorem dX2_keep_10 : decode cX2_keep 10 = .ok (.bipush 51, 2) := by decide +kernel
theorem dX2_keep_12 : decode cX2_keep 12 = .ok (.invokestatic 45, 3) := by decide +kernel
theorem dX2_keep_15 : decode cX2_keep 15 = .ok (.return_, 1) := by decide +kernel
theorem dX2_bringBack_0 : decode cX2_bringBack 0 = .ok (.aload_n 0, 1) := by decide +kernel
theorem dX2_bringBack_1 : decode cX2_bringBack 1 = .ok (.getfield 25, 3) := by decide +kernel
theorem dX2_bringBack_4 : decode cX2_bringBack 4 = .ok (.iconst 0, 1) := by decide +kernel
theorem dX2_bringBack_5 : decode cX2_bringBack 5 = .ok (.aload_n 0, 1) := by decide +kernel
theorem dX2_bringBack_6 : decode cX2_bringBack 6 = .ok (.getfield 22, 3) := by decide +kernel
theorem dX2_bringBack_9 : decode cX2_bringBack 9 = .ok (.iconst 0, 1) := by decide +kernel
theorem dX2_bringBack_10 : decode cX2_bringBack 10 = .ok (.bipush 51, 2) := by decide +kernel
theorem dX2_bringBack_12 : decode cX2_bringBack 12 = .ok (.invokestatic 45, 3) := by decide +kernel
theorem dX2_bringBack_15 : decode cX2_bringBack 15 = .ok (.return_, 1) := by decide +kernel
theorem dX2_isDone_0 : decode cX2_isDone 0 = .ok (.aload_n 0, 1) := by decide +kernel
theorem dX2_isDone_1 : decode cX2_isDone 1 = .ok (.getfield 22, 3) := by decide +kernel
theorem dX2_isDone_4 : decode cX2_isDone 4 = .ok (.bipush 19, 2) := by decide +kernel
theorem dX2_isDone_6 : decode cX2_isDone 6 = .ok (.iload_n 1, 1) := by decide +kernel
theorem dX2_isDone_7 : decode cX2_isDone 7 = .ok (.iadd, 1) := by decide +kernel
theorem dX2_isDone_8 : decode cX2_isDone 8 = .ok (.iaload, 1) := by decide +kernel
theorem dX2_isDone_9 : decode cX2_isDone 9 = .ok (.iconst (-1), 1) := by decide +kernel
theorem dX2_isDone_10 : decode cX2_isDone 10 = .ok (.if_icmp .eq 7, 3) := by decide +kernel
theorem dX2_isDone_13 : decode cX2_isDone 13 = .ok (.iconst 1, 1) := by decide +kernel
theorem dX2_isDone_14 : decode cX2_isDone 14 = .ok (.goto 4, 3) := by decide +kernel
theorem dX2_isDone_17 : decode cX2_isDone 17 = .ok (.iconst 0, 1) := by decide +kernel
theorem dX2_isDone_18 : decode cX2_isDone 18 = .ok (.ireturn, 1) := by decide +kernel
theorem dX2_turn_0 : decode cX2_turn 0 = .ok (.bipush 16, 2) := by decide +kernel
theorem dX2_turn_2 : decode cX2_turn 2 = .ok (.aload_n 0, 1) := by decide +kernel
theorem dX2_turn_3 : decode cX2_turn 3 = .ok (.getfield 51, 3) := by decide +kernel
theorem dX2_turn_6 : decode cX2_turn 6 = .ok (.ifCond .ne 7, 3) := by decide +kernel
theorem dX2_turn_9 : decode cX2_turn 9 = .ok (.iconst 0, 1) := by decide +kernel
theorem dX2_turn_10 : decode cX2_turn 10 = .ok (.goto 28, 3) := by decide +kernel
theorem dX2_turn_13 : decode cX2_turn 13 = .ok (.aload_n 0, 1) := by decide +kernel
theorem dX2_turn_14 : decode cX2_turn 14 = .ok (.getfield 51, 3) := by decide +kernel
theorem dX2_turn_17 : decode cX2_turn 17 = .ok (.iconst 1, 1) := by decide +kernel
theorem dX2_turn_18 : decode cX2_turn 18 = .ok (.if_icmp .ne 12, 3) := by decide +kernel
theorem dX2_turn_21 : decode cX2_turn 21 = .ok (.aload_n 0, 1) := by decide +kernel
theorem dX2_turn_22 : decode cX2_turn 22 = .ok (.getfield 19, 3) := by decide +kernel
theorem dX2_turn_25 : decode cX2_turn 25 = .ok (.iload_n 1, 1) := by decide +kernel
theorem dX2_turn_26 : decode cX2_turn 26 = .ok (.iaload, 1) := by decide +kernel
theorem dX2_turn_27 : decode cX2_turn 27 = .ok (.goto 11, 3) := by decide +kernel
theorem dX2_turn_30 : decode cX2_turn 30 = .ok (.aload_n 0, 1) := by decide +kernel
theorem dX2_turn_31 : decode cX2_turn 31 = .ok (.getfield 22, 3) := by decide +kernel
theorem dX2_turn_34 : decode cX2_turn 34 = .ok (.iconst 3, 1) := by decide +kernel
theorem dX2_turn_35 : decode cX2_turn 35 = .ok (.iload_n 1, 1) := by decide +kernel
theorem dX2_turn_36 : decode cX2_turn 36 = .ok (.iadd, 1) := by decide +kernel
theorem dX2_turn_37 : decode cX2_turn 37 = .ok (.iaload, 1) := by decide +kernel
theorem dX2_turn_38 : decode cX2_turn 38 = .ok (.imul, 1) := by decide +kernel
theorem dX2_turn_39 : decode cX2_turn 39 = .ok (.iload_n 1, 1) := by decide +kernel
theorem dX2_turn_40 : decode cX2_turn 40 = .ok (.iadd, 1) := by decide +kernel
theorem dX2_turn_41 : decode cX2_turn 41 = .ok (.ireturn, 1) := by decide +kernel
set_option maxRecDepth 20000 in
theorem ggX2_ahead_X2_isDone : GoodIn wsX2_ahead wsX2_isDone := goodIn_r _ [6, 7, 14, 15, 16, 17, 18, 19, 20, 21, 22, 23, 24, 25] (by decide +kernel) (by decide +kernel)
set_option maxRecDepth 20000 in
theorem gX2_ahead_X2_isDone : GoodIn wsX2_ahead (wsV RX2 54 RX2 yX2_isDone wsX2_isDone) := goodIn_app (goodIn_of _ (by decide +kernel)) ggX2_ahead_X2_isDone
set_option maxRecDepth 20000 in
theorem ggX2_ahead_X2_turn : GoodIn wsX2_ahead wsX2_turn := goodIn_r _ [11, 12, 13, 7, 14, 15, 16, 17, 18, 19, 20, 21, 22, 23, 24, 25] (by decide +kernel) (by decide +kernel)
set_option maxRecDepth 20000 in
theorem gX2_ahead_X2_turn : GoodIn wsX2_ahead (wsV RX2 58 RX2 yX2_turn wsX2_turn) := goodIn_app (goodIn_of _ (by decide +kernel)) ggX2_ahead_X2_turn
theorem dX2_ahead_0 : decode cX2_ahead 0 = .ok (.iconst 0, 1) := by decide +kernel
theorem dX2_ahead_1 : decode cX2_ahead 1 = .ok (.istore_n 2, 1) := by decide +kernel
theorem dX2_ahead_2 : decode cX2_ahead 2 = .ok (.iconst 0, 1) := by decide +kernel
theorem dX2_ahead_3 : decode cX2_ahead 3 = .ok (.istore_n 3, 1) := by decide +kernel
theorem dX2_ahead_4 : decode cX2_ahead 4 = .ok (.iload_n 3, 1) := by decide +kernel
theorem dX2_ahead_5 : decode cX2_ahead 5 = .ok (.aload_n 0, 1) := by decide +kernel
theorem dX2_ahead_6 : decode cX2_ahead 6 = .ok (.getfield 42, 3) := by decide +kernel
theorem dX2_ahead_9 : decode cX2_ahead 9 = .ok (.if_icmp .ge 38, 3) := by decide +kernel
theorem dX2_ahead_12 : decode cX2_ahead 12 = .ok (.iload_n 2, 1) := by decide +kernel
theorem dX2_ahead_13 : decode cX2_ahead 13 = .ok (.aload_n 0, 1) := by decide +kernel
theorem dX2_ahead_14 : decode cX2_ahead 14 = .ok (.iload_n 3, 1) := by decide +kernel
theorem dX2_ahead_15 : decode cX2_ahead 15 = .ok (.invokevirtual 54, 3) := by decide +kernel
theorem dX2_ahead_18 : decode cX2_ahead 18 = .ok (.ifCond .ne 20, 3) := by decide +kernel
theorem dX2_ahead_21 : decode cX2_ahead 21 = .ok (.aload_n 0, 1) := by decide +kernel
theorem dX2_ahead_22 : decode cX2_ahead 22 = .ok (.iload_n 3, 1) := by decide +kernel
theorem dX2_ahead_23 : decode cX2_ahead 23 = .ok (.invokevirtual 58, 3) := by decide +kernel
theorem dX2_ahead_26 : decode cX2_ahead 26 = .ok (.aload_n 0, 1) := by decide +kernel
theorem dX2_ahead_27 : decode cX2_ahead 27 = .ok (.iload_n 1, 1) := by decide +kernel
theorem dX2_ahead_28 : decode cX2_ahead 28 = .ok (.invokevirtual 58, 3) := by decide +kernel
theorem dX2_ahead_31 : decode cX2_ahead 31 = .ok (.if_icmp .ge 7, 3) := by decide +kernel
theorem dX2_ahead_34 : decode cX2_ahead 34 = .ok (.iconst 1, 1) := by decide +kernel
theorem dX2_ahead_35 : decode cX2_ahead 35 = .ok (.goto 4, 3) := by decide +kernel
theorem dX2_ahead_38 : decode cX2_ahead 38 = .ok (.iconst 0, 1) := by decide +kernel
theorem dX2_ahead_39 : decode cX2_ahead 39 = .ok (.iadd, 1) := by decide +kernel
theorem dX2_ahead_40 : decode cX2_ahead 40 = .ok (.istore_n 2, 1) := by decide +kernel
theorem dX2_ahead_41 : decode cX2_ahead 41 = .ok (.iinc 3 1, 3) := by decide +kernel
theorem dX2_ahead_44 : decode cX2_ahead 44 = .ok (.goto (-40), 3) := by decide +kernel
theorem dX2_ahead_47 : decode cX2_ahead 47 = .ok (.iload_n 2, 1) := by decide +kernel
theorem dX2_ahead_48 : decode cX2_ahead 48 = .ok (.ireturn, 1) := by decide +kernel
set_option maxRecDepth 20000 in
theorem ggX2_next_X2_isDone : GoodIn wsX2_next wsX2_isDone := goodIn_r _ [7, 2, 14, 15, 16, 17, 18, 19, 20, 21, 22, 23, 24, 25] (by decide +kernel) (by decide +kernel)
set_option maxRecDepth 20000 in
theorem gX2_next_X2_isDone : GoodIn wsX2_next (wsV RX2 54 RX2 yX2_isDone wsX2_isDone) := goodIn_app (goodIn_of _ (by decide +kernel)) ggX2_next_X2_isDone
set_option maxRecDepth 20000 in
theorem ggX2_next_X2_turn : GoodIn wsX2_next wsX2_turn := goodIn_r _ [11, 12, 13, 2, 14, 15, 16, 17, 18, 19, 20, 21, 22, 23, 24, 25] (by decide +kernel) (by decide +kernel)
set_option maxRecDepth 20000 in
theorem gX2_next_X2_turn : GoodIn wsX2_next (wsV RX2 58 RX2 yX2_turn wsX2_turn) := goodIn_app (goodIn_of _ (by decide +kernel)) ggX2_next_X2_turn
theorem dX2_next_0 : decode cX2_next 0 = .ok (.iconst (-1), 1) := by decide +kernel
theorem dX2_next_1 : decode cX2_next 1 = .ok (.istore_n 2, 1) := by decide +kernel
theorem dX2_next_2 : decode cX2_next 2 = .ok (.iconst 0, 1) := by decide +kernel
theorem dX2_next_3 : decode cX2_next 3 = .ok (.istore_n 3, 1) := by decide +kernel
theorem dX2_next_4 : decode cX2_next 4 = .ok (.iload_n 3, 1) := by decide +kernel
theorem dX2_next_5 : decode cX2_next 5 = .ok (.aload_n 0, 1) := by decide +kernel
theorem dX2_next_6 : decode cX2_next 6 = .ok (.getfield 42, 3) := by decide +kernel
theorem dX2_next_9 : decode cX2_next 9 = .ok (.if_icmp .ge 54, 3) := by decide +kernel
theorem dX2_next_12 : decode cX2_next 12 = .ok (.aload_n 0, 1) := by decide +kernel
theorem dX2_next_13 : decode cX2_next 13 = .ok (.iload_n 3, 1) := by decide +kernel
theorem dX2_next_14 : decode cX2_next 14 = .ok (.invokevirtual 54, 3) := by decide +kernel
theorem dX2_next_17 : decode cX2_next 17 = .ok (.ifCond .ne 40, 3) := by decide +kernel
theorem dX2_next_20 : decode cX2_next 20 = .ok (.iload_n 1, 1) := by decide +kernel
theorem dX2_next_21 : decode cX2_next 21 = .ok (.ifCond .eq 16, 3) := by decide +kernel
theorem dX2_next_24 : decode cX2_next 24 = .ok (.aload_n 0, 1) := by decide +kernel
theorem dX2_next_25 : decode cX2_next 25 = .ok (.getfield 22, 3) := by decide +kernel
theorem dX2_next_28 : decode cX2_next 28 = .ok (.bipush 35, 2) := by decide +kernel
theorem dX2_next_30 : decode cX2_next 30 = .ok (.iload_n 3, 1) := by decide +kernel
theorem dX2_next_31 : decode cX2_next 31 = .ok (.iadd, 1) := by decide +kernel
theorem dX2_next_32 : decode cX2_next 32 = .ok (.iaload, 1) := by decide +kernel
theorem dX2_next_33 : decode cX2_next 33 = .ok (.iconst (-1), 1) := by decide +kernel
theorem dX2_next_34 : decode cX2_next 34 = .ok (.if_icmp .ne 23, 3) := by decide +kernel
theorem dX2_next_37 : decode cX2_next 37 = .ok (.iload_n 2, 1) := by decide +kernel
theorem dX2_next_38 : decode cX2_next 38 = .ok (.iconst (-1), 1) := by decide +kernel
theorem dX2_next_39 : decode cX2_next 39 = .ok (.if_icmp .eq 16, 3) := by decide +kernel
theorem dX2_next_42 : decode cX2_next 42 = .ok (.aload_n 0, 1) := by decide +kernel
theorem dX2_next_43 : decode cX2_next 43 = .ok (.iload_n 3, 1) := by decide +kernel
theorem dX2_next_44 : decode cX2_next 44 = .ok (.invokevirtual 58, 3) := by decide +kernel
theorem dX2_next_47 : decode cX2_next 47 = .ok (.aload_n 0, 1) := by decide +kernel
theorem dX2_next_48 : decode cX2_next 48 = .ok (.iload_n 2, 1) := by decide +kernel
theorem dX2_next_49 : decode cX2_next 49 = .ok (.invokevirtual 58, 3) := by decide +kernel
theorem dX2_next_52 : decode cX2_next 52 = .ok (.if_icmp .ge 5, 3) := by decide +kernel
theorem dX2_next_55 : decode cX2_next 55 = .ok (.iload_n 3, 1) := by decide +kernel
theorem dX2_next_56 : decode cX2_next 56 = .ok (.istore_n 2, 1) := by decide +kernel
theorem dX2_next_57 : decode cX2_next 57 = .ok (.iinc 3 1, 3) := by decide +kernel
theorem dX2_next_60 : decode cX2_next 60 = .ok (.goto (-56), 3) := by decide +kernel
theorem dX2_next_63 : decode cX2_next 63 = .ok (.iload_n 2, 1) := by decide +kernel
theorem dX2_next_64 : decode cX2_next 64 = .ok (.ireturn, 1) := by decide +kernel
theorem dX2_on_0 : decode cX2_on 0 = .ok (.iconst 0, 1) := by decide +kernel
theorem dX2_on_1 : decode cX2_on 1 = .ok (.istore_n 2, 1) := by decide +kernel
theorem dX2_on_2 : decode cX2_on 2 = .ok (.iload_n 2, 1) := by decide +kernel
theorem dX2_on_3 : decode cX2_on 3 = .ok (.aload_n 0, 1) := by decide +kernel
theorem dX2_on_4 : decode cX2_on 4 = .ok (.getfield 42, 3) := by decide +kernel
theorem dX2_on_7 : decode cX2_on 7 = .ok (.if_icmp .ge 24, 3) := by decide +kernel
theorem dX2_on_10 : decode cX2_on 10 = .ok (.aload_n 0, 1) := by decide +kernel
theorem dX2_on_11 : decode cX2_on 11 = .ok (.getfield 22, 3) := by decide +kernel
theorem dX2_on_14 : decode cX2_on 14 = .ok (.bipush 35, 2) := by decide +kernel
theorem dX2_on_16 : decode cX2_on 16 = .ok (.iload_n 2, 1) := by decide +kernel
theorem dX2_on_17 : decode cX2_on 17 = .ok (.iadd, 1) := by decide +kernel
theorem dX2_on_18 : decode cX2_on 18 = .ok (.iaload, 1) := by decide +kernel
theorem dX2_on_19 : decode cX2_on 19 = .ok (.iload_n 1, 1) := by decide +kernel
theorem dX2_on_20 : decode cX2_on 20 = .ok (.if_icmp .ne 5, 3) := by decide +kernel
theorem dX2_on_23 : decode cX2_on 23 = .ok (.iload_n 2, 1) := by decide +kernel
theorem dX2_on_24 : decode cX2_on 24 = .ok (.ireturn, 1) := by decide +kernel
theorem dX2_on_25 : decode cX2_on 25 = .ok (.iinc 2 1, 3) := by decide +kernel
theorem dX2_on_28 : decode cX2_on 28 = .ok (.goto (-26), 3) := by decide +kernel
theorem dX2_on_31 : decode cX2_on 31 = .ok (.iconst (-1), 1) := by decide +kernel
theorem dX2_on_32 : decode cX2_on 32 = .ok (.ireturn, 1) := by decide +kernel
set_option maxRecDepth 20000 in
theorem ggX2_hourOn_X2_ahead : GoodIn wsX2_hourOn wsX2_ahead := goodIn_r _ [16, 1, 17, 18, 19, 15, 20, 3, 21, 22, 23, 24, 25, 26, 35, 36, 37, 38, 39, 40, 41, 42, 43, 44, 45, 46] (by decide +kernel) (by decide +kernel)
set_option maxRecDepth 20000 in
theorem gX2_hourOn_X2_ahead : GoodIn wsX2_hourOn (wsV RX2 66 RX2 yX2_ahead wsX2_ahead) := goodIn_app (goodIn_of _ (by decide +kernel)) ggX2_hourOn_X2_ahead
set_option maxRecDepth 20000 in
theorem ggX2_hourOn_X2_on : GoodIn wsX2_hourOn wsX2_on := goodIn_r _ [30, 1, 3, 35, 36, 37, 38, 39, 40, 41, 42, 43, 44, 45, 46] (by decide +kernel) (by decide +kernel)
set_option maxRecDepth 20000 in
theorem gX2_hourOn_X2_on : GoodIn wsX2_hourOn (wsV RX2 69 RX2 yX2_on wsX2_on) := goodIn_app (goodIn_of _ (by decide +kernel)) ggX2_hourOn_X2_on
set_option maxRecDepth 20000 in
theorem ggX2_hourOn_X2_next : GoodIn wsX2_hourOn wsX2_next := goodIn_r _ [34, 1, 3, 17, 18, 19, 15, 20, 21, 22, 23, 24, 25, 26, 35, 36, 37, 38, 39, 40, 41, 42, 43, 44, 45, 46] (by decide +kernel) (by decide +kernel)
set_option maxRecDepth 20000 in
theorem gX2_hourOn_X2_next : GoodIn wsX2_hourOn (wsV RX2 72 RX2 yX2_next wsX2_next) := goodIn_app (goodIn_of _ (by decide +kernel)) ggX2_hourOn_X2_next
theorem dX2_hourOn_0 : decode cX2_hourOn 0 = .ok (.iconst 0, 1) := by decide +kernel
theorem dX2_hourOn_1 : decode cX2_hourOn 1 = .ok (.istore_n 1, 1) := by decide +kernel
theorem dX2_hourOn_2 : decode cX2_hourOn 2 = .ok (.iload_n 1, 1) := by decide +kernel
theorem dX2_hourOn_3 : decode cX2_hourOn 3 = .ok (.aload_n 0, 1) := by decide +kernel
theorem dX2_hourOn_4 : decode cX2_hourOn 4 = .ok (.getfield 42, 3) := by decide +kernel
theorem dX2_hourOn_7 : decode cX2_hourOn 7 = .ok (.if_icmp .ge 51, 3) := by decide +kernel
theorem dX2_hourOn_10 : decode cX2_hourOn 10 = .ok (.aload_n 0, 1) := by decide +kernel
theorem dX2_hourOn_11 : decode cX2_hourOn 11 = .ok (.getfield 62, 3) := by decide +kernel
theorem dX2_hourOn_14 : decode cX2_hourOn 14 = .ok (.ifCond .eq 44, 3) := by decide +kernel
theorem dX2_hourOn_17 : decode cX2_hourOn 17 = .ok (.aload_n 0, 1) := by decide +kernel
theorem dX2_hourOn_18 : decode cX2_hourOn 18 = .ok (.getfield 22, 3) := by decide +kernel
theorem dX2_hourOn_21 : decode cX2_hourOn 21 = .ok (.bipush 35, 2) := by decide +kernel
theorem dX2_hourOn_23 : decode cX2_hourOn 23 = .ok (.iload_n 1, 1) := by decide +kernel
theorem dX2_hourOn_24 : decode cX2_hourOn 24 = .ok (.iadd, 1) := by decide +kernel
theorem dX2_hourOn_25 : decode cX2_hourOn 25 = .ok (.iaload, 1) := by decide +kernel
theorem dX2_hourOn_26 : decode cX2_hourOn 26 = .ok (.iconst (-1), 1) := by decide +kernel
theorem dX2_hourOn_27 : decode cX2_hourOn 27 = .ok (.if_icmp .eq 25, 3) := by decide +kernel
theorem dX2_hourOn_30 : decode cX2_hourOn 30 = .ok (.aload_n 0, 1) := by decide +kernel
theorem dX2_hourOn_31 : decode cX2_hourOn 31 = .ok (.iload_n 1, 1) := by decide +kernel
theorem dX2_hourOn_32 : decode cX2_hourOn 32 = .ok (.invokevirtual 66, 3) := by decide +kernel
theorem dX2_hourOn_35 : decode cX2_hourOn 35 = .ok (.aload_n 0, 1) := by decide +kernel
theorem dX2_hourOn_36 : decode cX2_hourOn 36 = .ok (.getfield 35, 3) := by decide +kernel
theorem dX2_hourOn_39 : decode cX2_hourOn 39 = .ok (.if_icmp .lt 13, 3) := by decide +kernel
theorem dX2_hourOn_42 : decode cX2_hourOn 42 = .ok (.aload_n 0, 1) := by decide +kernel
theorem dX2_hourOn_43 : decode cX2_hourOn 43 = .ok (.getfield 22, 3) := by decide +kernel
theorem dX2_hourOn_46 : decode cX2_hourOn 46 = .ok (.bipush 35, 2) := by decide +kernel
theorem dX2_hourOn_48 : decode cX2_hourOn 48 = .ok (.iload_n 1, 1) := by decide +kernel
theorem dX2_hourOn_49 : decode cX2_hourOn 49 = .ok (.iadd, 1) := by decide +kernel
theorem dX2_hourOn_50 : decode cX2_hourOn 50 = .ok (.iconst (-1), 1) := by decide +kernel
theorem dX2_hourOn_51 : decode cX2_hourOn 51 = .ok (.iastore, 1) := by decide +kernel
theorem dX2_hourOn_52 : decode cX2_hourOn 52 = .ok (.iinc 1 1, 3) := by decide +kernel
theorem dX2_hourOn_55 : decode cX2_hourOn 55 = .ok (.goto (-53), 3) := by decide +kernel
theorem dX2_hourOn_58 : decode cX2_hourOn 58 = .ok (.iconst 0, 1) := by decide +kernel
theorem dX2_hourOn_59 : decode cX2_hourOn 59 = .ok (.istore_n 1, 1) := by decide +kernel
theorem dX2_hourOn_60 : decode cX2_hourOn 60 = .ok (.iload_n 1, 1) := by decide +kernel
theorem dX2_hourOn_61 : decode cX2_hourOn 61 = .ok (.aload_n 0, 1) := by decide +kernel
theorem dX2_hourOn_62 : decode cX2_hourOn 62 = .ok (.getfield 35, 3) := by decide +kernel
theorem dX2_hourOn_65 : decode cX2_hourOn 65 = .ok (.if_icmp .ge 70, 3) := by decide +kernel
theorem dX2_hourOn_68 : decode cX2_hourOn 68 = .ok (.aload_n 0, 1) := by decide +kernel
theorem dX2_hourOn_69 : decode cX2_hourOn 69 = .ok (.getfield 28, 3) := by decide +kernel
theorem dX2_hourOn_72 : decode cX2_hourOn 72 = .ok (.iload_n 1, 1) := by decide +kernel
theorem dX2_hourOn_73 : decode cX2_hourOn 73 = .ok (.iconst 0, 1) := by decide +kernel
theorem dX2_hourOn_74 : decode cX2_hourOn 74 = .ok (.iastore, 1) := by decide +kernel
theorem dX2_hourOn_75 : decode cX2_hourOn 75 = .ok (.aload_n 0, 1) := by decide +kernel
theorem dX2_hourOn_76 : decode cX2_hourOn 76 = .ok (.iload_n 1, 1) := by decide +kernel
theorem dX2_hourOn_77 : decode cX2_hourOn 77 = .ok (.invokevirtual 69, 3) := by decide +kernel
theorem dX2_hourOn_80 : decode cX2_hourOn 80 = .ok (.iconst (-1), 1) := by decide +kernel
theorem dX2_hourOn_81 : decode cX2_hourOn 81 = .ok (.if_icmp .ne 11, 3) := by decide +kernel
theorem dX2_hourOn_84 : decode cX2_hourOn 84 = .ok (.aload_n 0, 1) := by decide +kernel
theorem dX2_hourOn_85 : decode cX2_hourOn 85 = .ok (.iconst 1, 1) := by decide +kernel
theorem dX2_hourOn_86 : decode cX2_hourOn 86 = .ok (.invokevirtual 72, 3) := by decide +kernel
theorem dX2_hourOn_89 : decode cX2_hourOn 89 = .ok (.goto 4, 3) := by decide +kernel
theorem dX2_hourOn_92 : decode cX2_hourOn 92 = .ok (.iconst (-1), 1) := by decide +kernel
theorem dX2_hourOn_93 : decode cX2_hourOn 93 = .ok (.istore_n 2, 1) := by decide +kernel
theorem dX2_hourOn_94 : decode cX2_hourOn 94 = .ok (.iload_n 2, 1) := by decide +kernel
theorem dX2_hourOn_95 : decode cX2_hourOn 95 = .ok (.iconst (-1), 1) := by decide +kernel
theorem dX2_hourOn_96 : decode cX2_hourOn 96 = .ok (.if_icmp .ne 6, 3) := by decide +kernel
theorem dX2_hourOn_99 : decode cX2_hourOn 99 = .ok (.goto 30, 3) := by decide +kernel
theorem dX2_hourOn_102 : decode cX2_hourOn 102 = .ok (.aload_n 0, 1) := by decide +kernel
theorem dX2_hourOn_103 : decode cX2_hourOn 103 = .ok (.getfield 22, 3) := by decide +kernel
theorem dX2_hourOn_106 : decode cX2_hourOn 106 = .ok (.bipush 35, 2) := by decide +kernel
theorem dX2_hourOn_108 : decode cX2_hourOn 108 = .ok (.iload_n 2, 1) := by decide +kernel
theorem dX2_hourOn_109 : decode cX2_hourOn 109 = .ok (.iadd, 1) := by decide +kernel
theorem dX2_hourOn_110 : decode cX2_hourOn 110 = .ok (.iload_n 1, 1) := by decide +kernel
theorem dX2_hourOn_111 : decode cX2_hourOn 111 = .ok (.iastore, 1) := by decide +kernel
theorem dX2_hourOn_112 : decode cX2_hourOn 112 = .ok (.aload_n 0, 1) := by decide +kernel
theorem dX2_hourOn_113 : decode cX2_hourOn 113 = .ok (.getfield 22, 3) := by decide +kernel
theorem dX2_hourOn_116 : decode cX2_hourOn 116 = .ok (.iconst 1, 1) := by decide +kernel
theorem dX2_hourOn_117 : decode cX2_hourOn 117 = .ok (.dup2, 1) := by decide +kernel
theorem dX2_hourOn_118 : decode cX2_hourOn 118 = .ok (.iaload, 1) := by decide +kernel
theorem dX2_hourOn_119 : decode cX2_hourOn 119 = .ok (.iconst 1, 1) := by decide +kernel
theorem dX2_hourOn_120 : decode cX2_hourOn 120 = .ok (.iadd, 1) := by decide +kernel
theorem dX2_hourOn_121 : decode cX2_hourOn 121 = .ok (.iastore, 1) := by decide +kernel
theorem dX2_hourOn_122 : decode cX2_hourOn 122 = .ok (.aload_n 0, 1) := by decide +kernel
theorem dX2_hourOn_123 : decode cX2_hourOn 123 = .ok (.getfield 28, 3) := by decide +kernel
theorem dX2_hourOn_126 : decode cX2_hourOn 126 = .ok (.iload_n 1, 1) := by decide +kernel
theorem dX2_hourOn_127 : decode cX2_hourOn 127 = .ok (.iconst 1, 1) := by decide +kernel
theorem dX2_hourOn_128 : decode cX2_hourOn 128 = .ok (.iastore, 1) := by decide +kernel
theorem dX2_hourOn_129 : decode cX2_hourOn 129 = .ok (.iinc 1 1, 3) := by decide +kernel
theorem dX2_hourOn_132 : decode cX2_hourOn 132 = .ok (.goto (-72), 3) := by decide +kernel
theorem dX2_hourOn_135 : decode cX2_hourOn 135 = .ok (.aload_n 0, 1) := by decide +kernel
theorem dX2_hourOn_136 : decode cX2_hourOn 136 = .ok (.getfield 13, 3) := by decide +kernel
theorem dX2_hourOn_139 : decode cX2_hourOn 139 = .ok (.aload_n 0, 1) := by decide +kernel
theorem dX2_hourOn_140 : decode cX2_hourOn 140 = .ok (.getfield 22, 3) := by decide +kernel
theorem dX2_hourOn_143 : decode cX2_hourOn 143 = .ok (.iconst 0, 1) := by decide +kernel
theorem dX2_hourOn_144 : decode cX2_hourOn 144 = .ok (.iaload, 1) := by decide +kernel
theorem dX2_hourOn_145 : decode cX2_hourOn 145 = .ok (.bipush 12, 2) := by decide +kernel
theorem dX2_hourOn_147 : decode cX2_hourOn 147 = .ok (.irem, 1) := by decide +kernel
theorem dX2_hourOn_148 : decode cX2_hourOn 148 = .ok (.iaload, 1) := by decide +kernel
theorem dX2_hourOn_149 : decode cX2_hourOn 149 = .ok (.istore_n 1, 1) := by decide +kernel
theorem dX2_hourOn_150 : decode cX2_hourOn 150 = .ok (.iconst 0, 1) := by decide +kernel
theorem dX2_hourOn_151 : decode cX2_hourOn 151 = .ok (.istore_n 2, 1) := by decide +kernel
theorem dX2_hourOn_152 : decode cX2_hourOn 152 = .ok (.iload_n 2, 1) := by decide +kernel
theorem dX2_hourOn_153 : decode cX2_hourOn 153 = .ok (.aload_n 0, 1) := by decide +kernel
theorem dX2_hourOn_154 : decode cX2_hourOn 154 = .ok (.getfield 35, 3) := by decide +kernel
theorem dX2_hourOn_157 : decode cX2_hourOn 157 = .ok (.if_icmp .ge 82, 3) := by decide +kernel
theorem dX2_hourOn_160 : decode cX2_hourOn 160 = .ok (.aload_n 0, 1) := by decide +kernel
theorem dX2_hourOn_161 : decode cX2_hourOn 161 = .ok (.iload_n 2, 1) := by decide +kernel
theorem dX2_hourOn_162 : decode cX2_hourOn 162 = .ok (.invokevirtual 69, 3) := by decide +kernel
theorem dX2_hourOn_165 : decode cX2_hourOn 165 = .ok (.istore_n 3, 1) := by decide +kernel
theorem dX2_hourOn_166 : decode cX2_hourOn 166 = .ok (.iload_n 3, 1) := by decide +kernel
theorem dX2_hourOn_167 : decode cX2_hourOn 167 = .ok (.iconst (-1), 1) := by decide +kernel
theorem dX2_hourOn_168 : decode cX2_hourOn 168 = .ok (.if_icmp .ne 6, 3) := by decide +kernel
theorem dX2_hourOn_171 : decode cX2_hourOn 171 = .ok (.goto 62, 3) := by decide +kernel
theorem dX2_hourOn_174 : decode cX2_hourOn 174 = .ok (.aload_n 0, 1) := by decide +kernel
theorem dX2_hourOn_175 : decode cX2_hourOn 175 = .ok (.getfield 9, 3) := by decide +kernel
theorem dX2_hourOn_178 : decode cX2_hourOn 178 = .ok (.iload_n 2, 1) := by decide +kernel
theorem dX2_hourOn_179 : decode cX2_hourOn 179 = .ok (.iaload, 1) := by decide +kernel
theorem dX2_hourOn_180 : decode cX2_hourOn 180 = .ok (.aload_n 0, 1) := by decide +kernel
theorem dX2_hourOn_181 : decode cX2_hourOn 181 = .ok (.getfield 28, 3) := by decide +kernel
theorem dX2_hourOn_184 : decode cX2_hourOn 184 = .ok (.iload_n 2, 1) := by decide +kernel
theorem dX2_hourOn_185 : decode cX2_hourOn 185 = .ok (.iaload, 1) := by decide +kernel
theorem dX2_hourOn_186 : decode cX2_hourOn 186 = .ok (.isub, 1) := by decide +kernel
theorem dX2_hourOn_187 : decode cX2_hourOn 187 = .ok (.aload_n 0, 1) := by decide +kernel
theorem dX2_hourOn_188 : decode cX2_hourOn 188 = .ok (.getfield 22, 3) := by decide +kernel
theorem dX2_hourOn_191 : decode cX2_hourOn 191 = .ok (.iconst 3, 1) := by decide +kernel
theorem dX2_hourOn_192 : decode cX2_hourOn 192 = .ok (.iload_n 3, 1) := by decide +kernel
theorem dX2_hourOn_193 : decode cX2_hourOn 193 = .ok (.iadd, 1) := by decide +kernel
theorem dX2_hourOn_194 : decode cX2_hourOn 194 = .ok (.iaload, 1) := by decide +kernel
theorem dX2_hourOn_195 : decode cX2_hourOn 195 = .ok (.invokestatic 76, 3) := by decide +kernel
theorem dX2_hourOn_198 : decode cX2_hourOn 198 = .ok (.iload_n 1, 1) := by decide +kernel
theorem dX2_hourOn_199 : decode cX2_hourOn 199 = .ok (.invokestatic 76, 3) := by decide +kernel
theorem dX2_hourOn_202 : decode cX2_hourOn 202 = .ok (.istore 4, 2) := by decide +kernel
theorem dX2_hourOn_204 : decode cX2_hourOn 204 = .ok (.aload_n 0, 1) := by decide +kernel
theorem dX2_hourOn_205 : decode cX2_hourOn 205 = .ok (.getfield 22, 3) := by decide +kernel
theorem dX2_hourOn_208 : decode cX2_hourOn 208 = .ok (.iconst 3, 1) := by decide +kernel
theorem dX2_hourOn_209 : decode cX2_hourOn 209 = .ok (.iload_n 3, 1) := by decide +kernel
theorem dX2_hourOn_210 : decode cX2_hourOn 210 = .ok (.iadd, 1) := by decide +kernel
theorem dX2_hourOn_211 : decode cX2_hourOn 211 = .ok (.dup2, 1) := by decide +kernel
theorem dX2_hourOn_212 : decode cX2_hourOn 212 = .ok (.iaload, 1) := by decide +kernel
theorem dX2_hourOn_213 : decode cX2_hourOn 213 = .ok (.iload 4, 2) := by decide +kernel
theorem dX2_hourOn_215 : decode cX2_hourOn 215 = .ok (.isub, 1) := by decide +kernel
theorem dX2_hourOn_216 : decode cX2_hourOn 216 = .ok (.iastore, 1) := by decide +kernel
theorem dX2_hourOn_217 : decode cX2_hourOn 217 = .ok (.aload_n 0, 1) := by decide +kernel
theorem dX2_hourOn_218 : decode cX2_hourOn 218 = .ok (.getfield 22, 3) := by decide +kernel
theorem dX2_hourOn_221 : decode cX2_hourOn 221 = .ok (.iconst 2, 1) := by decide +kernel
theorem dX2_hourOn_222 : decode cX2_hourOn 222 = .ok (.dup2, 1) := by decide +kernel
theorem dX2_hourOn_223 : decode cX2_hourOn 223 = .ok (.iaload, 1) := by decide +kernel
theorem dX2_hourOn_224 : decode cX2_hourOn 224 = .ok (.iload 4, 2) := by decide +kernel
theorem dX2_hourOn_226 : decode cX2_hourOn 226 = .ok (.iadd, 1) := by decide +kernel
theorem dX2_hourOn_227 : decode cX2_hourOn 227 = .ok (.iastore, 1) := by decide +kernel
theorem dX2_hourOn_228 : decode cX2_hourOn 228 = .ok (.iload_n 1, 1) := by decide +kernel
theorem dX2_hourOn_229 : decode cX2_hourOn 229 = .ok (.iload 4, 2) := by decide +kernel
theorem dX2_hourOn_231 : decode cX2_hourOn 231 = .ok (.isub, 1) := by decide +kernel
theorem dX2_hourOn_232 : decode cX2_hourOn 232 = .ok (.istore_n 1, 1) := by decide +kernel
theorem dX2_hourOn_233 : decode cX2_hourOn 233 = .ok (.iinc 2 1, 3) := by decide +kernel
theorem dX2_hourOn_236 : decode cX2_hourOn 236 = .ok (.goto (-84), 3) := by decide +kernel
theorem dX2_hourOn_239 : decode cX2_hourOn 239 = .ok (.aload_n 0, 1) := by decide +kernel
theorem dX2_hourOn_240 : decode cX2_hourOn 240 = .ok (.getfield 22, 3) := by decide +kernel
theorem dX2_hourOn_243 : decode cX2_hourOn 243 = .ok (.iconst 0, 1) := by decide +kernel
theorem dX2_hourOn_244 : decode cX2_hourOn 244 = .ok (.dup2, 1) := by decide +kernel
theorem dX2_hourOn_245 : decode cX2_hourOn 245 = .ok (.iaload, 1) := by decide +kernel
theorem dX2_hourOn_246 : decode cX2_hourOn 246 = .ok (.iconst 1, 1) := by decide +kernel
theorem dX2_hourOn_247 : decode cX2_hourOn 247 = .ok (.iadd, 1) := by decide +kernel
theorem dX2_hourOn_248 : decode cX2_hourOn 248 = .ok (.iastore, 1) := by decide +kernel
theorem dX2_hourOn_249 : decode cX2_hourOn 249 = .ok (.iconst 0, 1) := by decide +kernel
theorem dX2_hourOn_250 : decode cX2_hourOn 250 = .ok (.istore_n 2, 1) := by decide +kernel
theorem dX2_hourOn_251 : decode cX2_hourOn 251 = .ok (.iload_n 2, 1) := by decide +kernel
theorem dX2_hourOn_252 : decode cX2_hourOn 252 = .ok (.aload_n 0, 1) := by decide +kernel
theorem dX2_hourOn_253 : decode cX2_hourOn 253 = .ok (.getfield 42, 3) := by decide +kernel
theorem dX2_hourOn_256 : decode cX2_hourOn 256 = .ok (.if_icmp .ge 61, 3) := by decide +kernel
theorem dX2_hourOn_259 : decode cX2_hourOn 259 = .ok (.aload_n 0, 1) := by decide +kernel
theorem dX2_hourOn_260 : decode cX2_hourOn 260 = .ok (.getfield 22, 3) := by decide +kernel
theorem dX2_hourOn_263 : decode cX2_hourOn 263 = .ok (.bipush 35, 2) := by decide +kernel
theorem dX2_hourOn_265 : decode cX2_hourOn 265 = .ok (.iload_n 2, 1) := by decide +kernel
theorem dX2_hourOn_266 : decode cX2_hourOn 266 = .ok (.iadd, 1) := by decide +kernel
theorem dX2_hourOn_267 : decode cX2_hourOn 267 = .ok (.iaload, 1) := by decide +kernel
theorem dX2_hourOn_268 : decode cX2_hourOn 268 = .ok (.iconst (-1), 1) := by decide +kernel
theorem dX2_hourOn_269 : decode cX2_hourOn 269 = .ok (.if_icmp .eq 42, 3) := by decide +kernel
theorem dX2_hourOn_272 : decode cX2_hourOn 272 = .ok (.aload_n 0, 1) := by decide +kernel
theorem dX2_hourOn_273 : decode cX2_hourOn 273 = .ok (.getfield 22, 3) := by decide +kernel
theorem dX2_hourOn_276 : decode cX2_hourOn 276 = .ok (.iconst 3, 1) := by decide +kernel
theorem dX2_hourOn_277 : decode cX2_hourOn 277 = .ok (.iload_n 2, 1) := by decide +kernel
theorem dX2_hourOn_278 : decode cX2_hourOn 278 = .ok (.iadd, 1) := by decide +kernel
theorem dX2_hourOn_279 : decode cX2_hourOn 279 = .ok (.iaload, 1) := by decide +kernel
theorem dX2_hourOn_280 : decode cX2_hourOn 280 = .ok (.ifCond .le 6, 3) := by decide +kernel
theorem dX2_hourOn_283 : decode cX2_hourOn 283 = .ok (.goto 28, 3) := by decide +kernel
theorem dX2_hourOn_286 : decode cX2_hourOn 286 = .ok (.aload_n 0, 1) := by decide +kernel
theorem dX2_hourOn_287 : decode cX2_hourOn 287 = .ok (.getfield 22, 3) := by decide +kernel
theorem dX2_hourOn_290 : decode cX2_hourOn 290 = .ok (.bipush 19, 2) := by decide +kernel
theorem dX2_hourOn_292 : decode cX2_hourOn 292 = .ok (.iload_n 2, 1) := by decide +kernel
theorem dX2_hourOn_293 : decode cX2_hourOn 293 = .ok (.iadd, 1) := by decide +kernel
theorem dX2_hourOn_294 : decode cX2_hourOn 294 = .ok (.aload_n 0, 1) := by decide +kernel
theorem dX2_hourOn_295 : decode cX2_hourOn 295 = .ok (.getfield 22, 3) := by decide +kernel
theorem dX2_hourOn_298 : decode cX2_hourOn 298 = .ok (.iconst 0, 1) := by decide +kernel
theorem dX2_hourOn_299 : decode cX2_hourOn 299 = .ok (.iaload, 1) := by decide +kernel
theorem dX2_hourOn_300 : decode cX2_hourOn 300 = .ok (.iastore, 1) := by decide +kernel
theorem dX2_hourOn_301 : decode cX2_hourOn 301 = .ok (.aload_n 0, 1) := by decide +kernel
theorem dX2_hourOn_302 : decode cX2_hourOn 302 = .ok (.getfield 22, 3) := by decide +kernel
theorem dX2_hourOn_305 : decode cX2_hourOn 305 = .ok (.bipush 35, 2) := by decide +kernel
theorem dX2_hourOn_307 : decode cX2_hourOn 307 = .ok (.iload_n 2, 1) := by decide +kernel
theorem dX2_hourOn_308 : decode cX2_hourOn 308 = .ok (.iadd, 1) := by decide +kernel
theorem dX2_hourOn_309 : decode cX2_hourOn 309 = .ok (.iconst (-1), 1) := by decide +kernel
theorem dX2_hourOn_310 : decode cX2_hourOn 310 = .ok (.iastore, 1) := by decide +kernel
theorem dX2_hourOn_311 : decode cX2_hourOn 311 = .ok (.iinc 2 1, 3) := by decide +kernel
theorem dX2_hourOn_314 : decode cX2_hourOn 314 = .ok (.goto (-63), 3) := by decide +kernel
theorem dX2_hourOn_317 : decode cX2_hourOn 317 = .ok (.return_, 1) := by decide +kernel
set_option maxRecDepth 20000 in
theorem ggX2_hoursOn_X2_hourOn : GoodIn wsX2_hoursOn wsX2_hourOn := goodIn_r _ [5, 6, 7, 8, 9, 10, 11, 12, 13, 14, 15, 16, 17, 18, 19, 4, 20, 21, 22, 23, 24, 25, 26, 27, 28, 29, 30, 31, 32, 33, 34, 35, 36, 37, 38, 39, 40, 41, 42, 43, 44, 45, 46, 47, 48, 49, 50] (by decide +kernel) (by decide +kernel)
set_option maxRecDepth 20000 in
theorem gX2_hoursOn_X2_hourOn : GoodIn wsX2_hoursOn (wsV RX2 82 RX2 yX2_hourOn wsX2_hourOn) := goodIn_app (goodIn_of _ (by decide +kernel)) ggX2_hoursOn_X2_hourOn
theorem dX2_hoursOn_0 : decode cX2_hoursOn 0 = .ok (.iconst 0, 1) := by decide +kernel
theorem dX2_hoursOn_1 : decode cX2_hoursOn 1 = .ok (.istore_n 2, 1) := by decide +kernel
theorem dX2_hoursOn_2 : decode cX2_hoursOn 2 = .ok (.iload_n 2, 1) := by decide +kernel
theorem dX2_hoursOn_3 : decode cX2_hoursOn 3 = .ok (.iload_n 1, 1) := by decide +kernel
theorem dX2_hoursOn_4 : decode cX2_hoursOn 4 = .ok (.if_icmp .ge 13, 3) := by decide +kernel
theorem dX2_hoursOn_7 : decode cX2_hoursOn 7 = .ok (.aload_n 0, 1) := by decide +kernel
theorem dX2_hoursOn_8 : decode cX2_hoursOn 8 = .ok (.invokevirtual 82, 3) := by decide +kernel
theorem dX2_hoursOn_11 : decode cX2_hoursOn 11 = .ok (.iinc 2 1, 3) := by decide +kernel
theorem dX2_hoursOn_14 : decode cX2_hoursOn 14 = .ok (.goto (-12), 3) := by decide +kernel
theorem dX2_hoursOn_17 : decode cX2_hoursOn 17 = .ok (.return_, 1) := by decide +kernel
set_option maxRecDepth 20000 in
theorem ggX2_addStone_X2_isIn : GoodIn wsX2_addStone wsX2_isIn := goodIn_r _ [7] (by decide +kernel) (by decide +kernel)
set_option maxRecDepth 20000 in
theorem gX2_addStone_X2_isIn : GoodIn wsX2_addStone (va_wsS RX2 38 yX2_isIn wsX2_isIn) := goodIn_app (goodIn_of _ (by decide +kernel)) ggX2_addStone_X2_isIn
set_option maxRecDepth 20000 in
theorem ggX2_addStone_X2_fail : GoodIn wsX2_addStone wsX2_fail := goodIn_r _ [11, 1, 12, 13, 14, 15, 16, 17, 18, 19, 20, 21, 22, 23] (by decide +kernel) (by decide +kernel)
set_option maxRecDepth 20000 in
theorem gX2_addStone_X2_fail : GoodIn wsX2_addStone (wsV RX2 85 RX2 yX2_fail wsX2_fail) := goodIn_app (goodIn_of _ (by decide +kernel)) ggX2_addStone_X2_fail
theorem dX2_addStone_0 : decode cX2_addStone 0 = .ok (.aload_n 0, 1) := by decide +kernel
theorem dX2_addStone_1 : decode cX2_addStone 1 = .ok (.iconst 0, 1) := by decide +kernel
theorem dX2_addStone_2 : decode cX2_addStone 2 = .ok (.putfield 31, 3) := by decide +kernel
theorem dX2_addStone_5 : decode cX2_addStone 5 = .ok (.iload_n 1, 1) := by decide +kernel
theorem dX2_addStone_6 : decode cX2_addStone 6 = .ok (.iconst 1, 1) := by decide +kernel
theorem dX2_addStone_7 : decode cX2_addStone 7 = .ok (.bipush 9, 2) := by decide +kernel
theorem dX2_addStone_9 : decode cX2_addStone 9 = .ok (.invokestatic 38, 3) := by decide +kernel
theorem dX2_addStone_12 : decode cX2_addStone 12 = .ok (.ifCond .ne 9, 3) := by decide +kernel
theorem dX2_addStone_15 : decode cX2_addStone 15 = .ok (.aload_n 0, 1) := by decide +kernel
theorem dX2_addStone_16 : decode cX2_addStone 16 = .ok (.iconst 1, 1) := by decide +kernel
theorem dX2_addStone_17 : decode cX2_addStone 17 = .ok (.invokevirtual 85, 3) := by decide +kernel
theorem dX2_addStone_20 : decode cX2_addStone 20 = .ok (.ireturn, 1) := by decide +kernel
theorem dX2_addStone_21 : decode cX2_addStone 21 = .ok (.aload_n 0, 1) := by decide +kernel
theorem dX2_addStone_22 : decode cX2_addStone 22 = .ok (.getfield 35, 3) := by decide +kernel
theorem dX2_addStone_25 : decode cX2_addStone 25 = .ok (.iconst 4, 1) := by decide +kernel
theorem dX2_addStone_26 : decode cX2_addStone 26 = .ok (.if_icmp .ne 9, 3) := by decide +kernel
theorem dX2_addStone_29 : decode cX2_addStone 29 = .ok (.aload_n 0, 1) := by decide +kernel
theorem dX2_addStone_30 : decode cX2_addStone 30 = .ok (.iconst 2, 1) := by decide +kernel
theorem dX2_addStone_31 : decode cX2_addStone 31 = .ok (.invokevirtual 85, 3) := by decide +kernel
theorem dX2_addStone_34 : decode cX2_addStone 34 = .ok (.ireturn, 1) := by decide +kernel
theorem dX2_addStone_35 : decode cX2_addStone 35 = .ok (.aload_n 0, 1) := by decide +kernel
theorem dX2_addStone_36 : decode cX2_addStone 36 = .ok (.getfield 9, 3) := by decide +kernel
theorem dX2_addStone_39 : decode cX2_addStone 39 = .ok (.aload_n 0, 1) := by decide +kernel
theorem dX2_addStone_40 : decode cX2_addStone 40 = .ok (.getfield 35, 3) := by decide +kernel
theorem dX2_addStone_43 : decode cX2_addStone 43 = .ok (.iload_n 1, 1) := by decide +kernel
theorem dX2_addStone_44 : decode cX2_addStone 44 = .ok (.iastore, 1) := by decide +kernel
theorem dX2_addStone_45 : decode cX2_addStone 45 = .ok (.aload_n 0, 1) := by decide +kernel
theorem dX2_addStone_46 : decode cX2_addStone 46 = .ok (.dup, 1) := by decide +kernel
theorem dX2_addStone_47 : decode cX2_addStone 47 = .ok (.getfield 35, 3) := by decide +kernel
theorem dX2_addStone_50 : decode cX2_addStone 50 = .ok (.iconst 1, 1) := by decide +kernel
theorem dX2_addStone_51 : decode cX2_addStone 51 = .ok (.iadd, 1) := by decide +kernel
theorem dX2_addStone_52 : decode cX2_addStone 52 = .ok (.putfield 35, 3) := by decide +kernel
theorem dX2_addStone_55 : decode cX2_addStone 55 = .ok (.aload_n 0, 1) := by decide +kernel
theorem dX2_addStone_56 : decode cX2_addStone 56 = .ok (.getfield 35, 3) := by decide +kernel
theorem dX2_addStone_59 : decode cX2_addStone 59 = .ok (.iconst 1, 1) := by decide +kernel
theorem dX2_addStone_60 : decode cX2_addStone 60 = .ok (.isub, 1) := by decide +kernel
theorem dX2_addStone_61 : decode cX2_addStone 61 = .ok (.ireturn, 1) := by decide +kernel
set_option maxRecDepth 20000 in
theorem ggX2_setWind_X2_isIn : GoodIn wsX2_setWind wsX2_isIn := goodIn_r _ [6] (by decide +kernel) (by decide +kernel)
set_option maxRecDepth 20000 in
theorem gX2_setWind_X2_isIn : GoodIn wsX2_setWind (va_wsS RX2 38 yX2_isIn wsX2_isIn) := goodIn_app (goodIn_of _ (by decide +kernel)) ggX2_setWind_X2_isIn
set_option maxRecDepth 20000 in
theorem ggX2_setWind_X2_fail : GoodIn wsX2_setWind wsX2_fail := goodIn_r _ [10, 1, 11, 12, 13, 14, 15, 16, 17, 18, 19, 20, 21, 22] (by decide +kernel) (by decide +kernel)
set_option maxRecDepth 20000 in
theorem gX2_setWind_X2_fail : GoodIn wsX2_setWind (wsV RX2 85 RX2 yX2_fail wsX2_fail) := goodIn_app (goodIn_of _ (by decide +kernel)) ggX2_setWind_X2_fail
theorem dX2_setWind_0 : decode cX2_setWind 0 = .ok (.aload_n 0, 1) := by decide +kernel
theorem dX2_setWind_1 : decode cX2_setWind 1 = .ok (.iconst 0, 1) := by decide +kernel
theorem dX2_setWind_2 : decode cX2_setWind 2 = .ok (.putfield 31, 3) := by decide +kernel
theorem dX2_setWind_5 : decode cX2_setWind 5 = .ok (.iload_n 1, 1) := by decide +kernel
theorem dX2_setWind_6 : decode cX2_setWind 6 = .ok (.iconst 0, 1) := by decide +kernel
theorem dX2_setWind_7 : decode cX2_setWind 7 = .ok (.bipush 11, 2) := by decide +kernel
theorem dX2_setWind_9 : decode cX2_setWind 9 = .ok (.invokestatic 38, 3) := by decide +kernel
theorem dX2_setWind_12 : decode cX2_setWind 12 = .ok (.ifCond .ne 9, 3) := by decide +kernel
theorem dX2_setWind_15 : decode cX2_setWind 15 = .ok (.aload_n 0, 1) := by decide +kernel
theorem dX2_setWind_16 : decode cX2_setWind 16 = .ok (.iconst 1, 1) := by decide +kernel
theorem dX2_setWind_17 : decode cX2_setWind 17 = .ok (.invokevirtual 85, 3) := by decide +kernel
theorem dX2_setWind_20 : decode cX2_setWind 20 = .ok (.ireturn, 1) := by decide +kernel
theorem dX2_setWind_21 : decode cX2_setWind 21 = .ok (.iload_n 2, 1) := by decide +kernel
theorem dX2_setWind_22 : decode cX2_setWind 22 = .ok (.iconst 0, 1) := by decide +kernel
theorem dX2_setWind_23 : decode cX2_setWind 23 = .ok (.bipush 20, 2) := by decide +kernel
theorem dX2_setWind_25 : decode cX2_setWind 25 = .ok (.invokestatic 38, 3) := by decide +kernel
theorem dX2_setWind_28 : decode cX2_setWind 28 = .ok (.ifCond .ne 9, 3) := by decide +kernel
theorem dX2_setWind_31 : decode cX2_setWind 31 = .ok (.aload_n 0, 1) := by decide +kernel
theorem dX2_setWind_32 : decode cX2_setWind 32 = .ok (.iconst 2, 1) := by decide +kernel
theorem dX2_setWind_33 : decode cX2_setWind 33 = .ok (.invokevirtual 85, 3) := by decide +kernel
theorem dX2_setWind_36 : decode cX2_setWind 36 = .ok (.ireturn, 1) := by decide +kernel
theorem dX2_setWind_37 : decode cX2_setWind 37 = .ok (.aload_n 0, 1) := by decide +kernel
theorem dX2_setWind_38 : decode cX2_setWind 38 = .ok (.getfield 13, 3) := by decide +kernel
theorem dX2_setWind_41 : decode cX2_setWind 41 = .ok (.iload_n 1, 1) := by decide +kernel
theorem dX2_setWind_42 : decode cX2_setWind 42 = .ok (.iaload, 1) := by decide +kernel
theorem dX2_setWind_43 : decode cX2_setWind 43 = .ok (.istore_n 3, 1) := by decide +kernel
theorem dX2_setWind_44 : decode cX2_setWind 44 = .ok (.aload_n 0, 1) := by decide +kernel
theorem dX2_setWind_45 : decode cX2_setWind 45 = .ok (.getfield 13, 3) := by decide +kernel
theorem dX2_setWind_48 : decode cX2_setWind 48 = .ok (.iload_n 1, 1) := by decide +kernel
theorem dX2_setWind_49 : decode cX2_setWind 49 = .ok (.iload_n 2, 1) := by decide +kernel
theorem dX2_setWind_50 : decode cX2_setWind 50 = .ok (.iastore, 1) := by decide +kernel
theorem dX2_setWind_51 : decode cX2_setWind 51 = .ok (.iload_n 3, 1) := by decide +kernel
theorem dX2_setWind_52 : decode cX2_setWind 52 = .ok (.ireturn, 1) := by decide +kernel
set_option maxRecDepth 20000 in
theorem ggX2_setRule_X2_isIn : GoodIn wsX2_setRule wsX2_isIn := goodIn_r _ [6] (by decide +kernel) (by decide +kernel)
set_option maxRecDepth 20000 in
theorem gX2_setRule_X2_isIn : GoodIn wsX2_setRule (va_wsS RX2 38 yX2_isIn wsX2_isIn) := goodIn_app (goodIn_of _ (by decide +kernel)) ggX2_setRule_X2_isIn
set_option maxRecDepth 20000 in
theorem ggX2_setRule_X2_fail : GoodIn wsX2_setRule wsX2_fail := goodIn_r _ [10, 1, 11, 12, 13, 14, 15, 16, 17, 18, 19, 20, 21, 22] (by decide +kernel) (by decide +kernel)
set_option maxRecDepth 20000 in
theorem gX2_setRule_X2_fail : GoodIn wsX2_setRule (wsV RX2 85 RX2 yX2_fail wsX2_fail) := goodIn_app (goodIn_of _ (by decide +kernel)) ggX2_setRule_X2_fail
theorem dX2_setRule_0 : decode cX2_setRule 0 = .ok (.aload_n 0, 1) := by decide +kernel
theorem dX2_setRule_1 : decode cX2_setRule 1 = .ok (.iconst 0, 1) := by decide +kernel
theorem dX2_setRule_2 : decode cX2_setRule 2 = .ok (.putfield 31, 3) := by decide +kernel
theorem dX2_setRule_5 : decode cX2_setRule 5 = .ok (.iload_n 1, 1) := by decide +kernel
theorem dX2_setRule_6 : decode cX2_setRule 6 = .ok (.iconst 0, 1) := by decide +kernel
theorem dX2_setRule_7 : decode cX2_setRule 7 = .ok (.iconst 2, 1) := by decide +kernel
theorem dX2_setRule_8 : decode cX2_setRule 8 = .ok (.invokestatic 38, 3) := by decide +kernel
theorem dX2_setRule_11 : decode cX2_setRule 11 = .ok (.ifCond .ne 9, 3) := by decide +kernel
theorem dX2_setRule_14 : decode cX2_setRule 14 = .ok (.aload_n 0, 1) := by decide +kernel
theorem dX2_setRule_15 : decode cX2_setRule 15 = .ok (.iconst 1, 1) := by decide +kernel
theorem dX2_setRule_16 : decode cX2_setRule 16 = .ok (.invokevirtual 85, 3) := by decide +kernel
theorem dX2_setRule_19 : decode cX2_setRule 19 = .ok (.ireturn, 1) := by decide +kernel
theorem dX2_setRule_20 : decode cX2_setRule 20 = .ok (.aload_n 0, 1) := by decide +kernel
theorem dX2_setRule_21 : decode cX2_setRule 21 = .ok (.getfield 51, 3) := by decide +kernel
theorem dX2_setRule_24 : decode cX2_setRule 24 = .ok (.istore_n 2, 1) := by decide +kernel
theorem dX2_setRule_25 : decode cX2_setRule 25 = .ok (.aload_n 0, 1) := by decide +kernel
theorem dX2_setRule_26 : decode cX2_setRule 26 = .ok (.iload_n 1, 1) := by decide +kernel
theorem dX2_setRule_27 : decode cX2_setRule 27 = .ok (.putfield 51, 3) := by decide +kernel
theorem dX2_setRule_30 : decode cX2_setRule 30 = .ok (.iload_n 2, 1) := by decide +kernel
theorem dX2_setRule_31 : decode cX2_setRule 31 = .ok (.ireturn, 1) := by decide +kernel
theorem dX2_setTakingOff_0 : decode cX2_setTakingOff 0 = .ok (.aload_n 0, 1) := by decide +kernel
theorem dX2_setTakingOff_1 : decode cX2_setTakingOff 1 = .ok (.iconst 0, 1) := by decide +kernel
theorem dX2_setTakingOff_2 : decode cX2_setTakingOff 2 = .ok (.putfield 31, 3) := by decide +kernel
theorem dX2_setTakingOff_5 : decode cX2_setTakingOff 5 = .ok (.aload_n 0, 1) := by decide +kernel
theorem dX2_setTakingOff_6 : decode cX2_setTakingOff 6 = .ok (.getfield 62, 3) := by decide +kernel
theorem dX2_setTakingOff_9 : decode cX2_setTakingOff 9 = .ok (.istore_n 2, 1) := by decide +kernel
theorem dX2_setTakingOff_10 : decode cX2_setTakingOff 10 = .ok (.aload_n 0, 1) := by decide +kernel
theorem dX2_setTakingOff_11 : decode cX2_setTakingOff 11 = .ok (.iload_n 1, 1) := by decide +kernel
theorem dX2_setTakingOff_12 : decode cX2_setTakingOff 12 = .ok (.putfield 62, 3) := by decide +kernel
theorem dX2_setTakingOff_15 : decode cX2_setTakingOff 15 = .ok (.iload_n 2, 1) := by decide +kernel
theorem dX2_setTakingOff_16 : decode cX2_setTakingOff 16 = .ok (.ireturn, 1) := by decide +kernel
theorem dX2_put_0 : decode cX2_put 0 = .ok (.aload_n 0, 1) := by decide +kernel
theorem dX2_put_1 : decode cX2_put 1 = .ok (.getfield 16, 3) := by decide +kernel
theorem dX2_put_4 : decode cX2_put 4 = .ok (.aload_n 0, 1) := by decide +kernel
theorem dX2_put_5 : decode cX2_put 5 = .ok (.getfield 42, 3) := by decide +kernel
theorem dX2_put_8 : decode cX2_put 8 = .ok (.iload_n 1, 1) := by decide +kernel
theorem dX2_put_9 : decode cX2_put 9 = .ok (.iastore, 1) := by decide +kernel
theorem dX2_put_10 : decode cX2_put 10 = .ok (.aload_n 0, 1) := by decide +kernel
theorem dX2_put_11 : decode cX2_put 11 = .ok (.getfield 19, 3) := by decide +kernel
theorem dX2_put_14 : decode cX2_put 14 = .ok (.aload_n 0, 1) := by decide +kernel
theorem dX2_put_15 : decode cX2_put 15 = .ok (.getfield 42, 3) := by decide +kernel
theorem dX2_put_18 : decode cX2_put 18 = .ok (.iload_n 3, 1) := by decide +kernel
theorem dX2_put_19 : decode cX2_put 19 = .ok (.iastore, 1) := by decide +kernel
theorem dX2_put_20 : decode cX2_put 20 = .ok (.aload_n 0, 1) := by decide +kernel
theorem dX2_put_21 : decode cX2_put 21 = .ok (.getfield 22, 3) := by decide +kernel
theorem dX2_put_24 : decode cX2_put 24 = .ok (.iconst 3, 1) := by decide +kernel
theorem dX2_put_25 : decode cX2_put 25 = .ok (.aload_n 0, 1) := by decide +kernel
theorem dX2_put_26 : decode cX2_put 26 = .ok (.getfield 42, 3) := by decide +kernel
theorem dX2_put_29 : decode cX2_put 29 = .ok (.iadd, 1) := by decide +kernel
theorem dX2_put_30 : decode cX2_put 30 = .ok (.iload_n 2, 1) := by decide +kernel
theorem dX2_put_31 : decode cX2_put 31 = .ok (.iastore, 1) := by decide +kernel
theorem dX2_put_32 : decode cX2_put 32 = .ok (.aload_n 0, 1) := by decide +kernel
theorem dX2_put_33 : decode cX2_put 33 = .ok (.getfield 22, 3) := by decide +kernel
theorem dX2_put_36 : decode cX2_put 36 = .ok (.bipush 19, 2) := by decide +kernel
theorem dX2_put_38 : decode cX2_put 38 = .ok (.aload_n 0, 1) := by decide +kernel
theorem dX2_put_39 : decode cX2_put 39 = .ok (.getfield 42, 3) := by decide +kernel
theorem dX2_put_42 : decode cX2_put 42 = .ok (.iadd, 1) := by decide +kernel
theorem dX2_put_43 : decode cX2_put 43 = .ok (.iconst (-1), 1) := by decide +kernel
theorem dX2_put_44 : decode cX2_put 44 = .ok (.iastore, 1) := by decide +kernel
theorem dX2_put_45 : decode cX2_put 45 = .ok (.aload_n 0, 1) := by decide +kernel
theorem dX2_put_46 : decode cX2_put 46 = .ok (.getfield 22, 3) := by decide +kernel
theorem dX2_put_49 : decode cX2_put 49 = .ok (.bipush 35, 2) := by decide +kernel
theorem dX2_put_51 : decode cX2_put 51 = .ok (.aload_n 0, 1) := by decide +kernel
theorem dX2_put_52 : decode cX2_put 52 = .ok (.getfield 42, 3) := by decide +kernel
theorem dX2_put_55 : decode cX2_put 55 = .ok (.iadd, 1) := by decide +kernel
theorem dX2_put_56 : decode cX2_put 56 = .ok (.iconst (-1), 1) := by decide +kernel
theorem dX2_put_57 : decode cX2_put 57 = .ok (.iastore, 1) := by decide +kernel
theorem dX2_put_58 : decode cX2_put 58 = .ok (.aload_n 0, 1) := by decide +kernel
theorem dX2_put_59 : decode cX2_put 59 = .ok (.dup, 1) := by decide +kernel
theorem dX2_put_60 : decode cX2_put 60 = .ok (.getfield 42, 3) := by decide +kernel
theorem dX2_put_63 : decode cX2_put 63 = .ok (.iconst 1, 1) := by decide +kernel
theorem dX2_put_64 : decode cX2_put 64 = .ok (.iadd, 1) := by decide +kernel
theorem dX2_put_65 : decode cX2_put 65 = .ok (.putfield 42, 3) := by decide +kernel
theorem dX2_put_68 : decode cX2_put 68 = .ok (.return_, 1) := by decide +kernel
set_option maxRecDepth 20000 in
theorem ggX2_bring_X2_isIn : GoodIn wsX2_bring wsX2_isIn := goodIn_r _ [6] (by decide +kernel) (by decide +kernel)
set_option maxRecDepth 20000 in
theorem gX2_bring_X2_isIn : GoodIn wsX2_bring (va_wsS RX2 38 yX2_isIn wsX2_isIn) := goodIn_app (goodIn_of _ (by decide +kernel)) ggX2_bring_X2_isIn
set_option maxRecDepth 20000 in
theorem ggX2_bring_X2_fail : GoodIn wsX2_bring wsX2_fail := goodIn_r _ [10, 1, 18, 19, 20, 21, 22, 23, 24, 25, 26, 27, 28, 29] (by decide +kernel) (by decide +kernel)
set_option maxRecDepth 20000 in
theorem gX2_bring_X2_fail : GoodIn wsX2_bring (wsV RX2 85 RX2 yX2_fail wsX2_fail) := goodIn_app (goodIn_of _ (by decide +kernel)) ggX2_bring_X2_fail
set_option maxRecDepth 20000 in
theorem ggX2_bring_X2_put : GoodIn wsX2_bring wsX2_put := goodIn_r _ [14, 15, 2, 16, 17, 18, 19, 20, 21, 22, 23, 24, 25, 26, 27, 28, 29] (by decide +kernel) (by decide +kernel)
set_option maxRecDepth 20000 in
theorem gX2_bring_X2_put : GoodIn wsX2_bring (wsV RX2 88 RX2 yX2_put wsX2_put) := goodIn_app (goodIn_of _ (by decide +kernel)) ggX2_bring_X2_put
theorem dX2_bring_0 : decode cX2_bring 0 = .ok (.aload_n 0, 1) := by decide +kernel
theorem dX2_bring_1 : decode cX2_bring 1 = .ok (.iconst 0, 1) := by decide +kernel
theorem dX2_bring_2 : decode cX2_bring 2 = .ok (.putfield 31, 3) := by decide +kernel
theorem dX2_bring_5 : decode cX2_bring 5 = .ok (.iload_n 1, 1) := by decide +kernel
theorem dX2_bring_6 : decode cX2_bring 6 = .ok (.iconst 0, 1) := by decide +kernel
theorem dX2_bring_7 : decode cX2_bring 7 = .ok (.bipush 7, 2) := by decide +kernel
theorem dX2_bring_9 : decode cX2_bring 9 = .ok (.invokestatic 38, 3) := by decide +kernel
theorem dX2_bring_12 : decode cX2_bring 12 = .ok (.ifCond .eq 24, 3) := by decide +kernel
theorem dX2_bring_15 : decode cX2_bring 15 = .ok (.iload_n 2, 1) := by decide +kernel
theorem dX2_bring_16 : decode cX2_bring 16 = .ok (.iconst 1, 1) := by decide +kernel
theorem dX2_bring_17 : decode cX2_bring 17 = .ok (.bipush 60, 2) := by decide +kernel
theorem dX2_bring_19 : decode cX2_bring 19 = .ok (.invokestatic 38, 3) := by decide +kernel
theorem dX2_bring_22 : decode cX2_bring 22 = .ok (.ifCond .eq 14, 3) := by decide +kernel
theorem dX2_bring_25 : decode cX2_bring 25 = .ok (.iload_n 3, 1) := by decide +kernel
theorem dX2_bring_26 : decode cX2_bring 26 = .ok (.iconst 1, 1) := by decide +kernel
theorem dX2_bring_27 : decode cX2_bring 27 = .ok (.sipush 200, 3) := by decide +kernel
theorem dX2_bring_30 : decode cX2_bring 30 = .ok (.invokestatic 38, 3) := by decide +kernel
theorem dX2_bring_33 : decode cX2_bring 33 = .ok (.ifCond .ne 9, 3) := by decide +kernel
theorem dX2_bring_36 : decode cX2_bring 36 = .ok (.aload_n 0, 1) := by decide +kernel
theorem dX2_bring_37 : decode cX2_bring 37 = .ok (.iconst 1, 1) := by decide +kernel
theorem dX2_bring_38 : decode cX2_bring 38 = .ok (.invokevirtual 85, 3) := by decide +kernel
theorem dX2_bring_41 : decode cX2_bring 41 = .ok (.ireturn, 1) := by decide +kernel
theorem dX2_bring_42 : decode cX2_bring 42 = .ok (.aload_n 0, 1) := by decide +kernel
theorem dX2_bring_43 : decode cX2_bring 43 = .ok (.getfield 42, 3) := by decide +kernel
theorem dX2_bring_46 : decode cX2_bring 46 = .ok (.bipush 16, 2) := by decide +kernel
theorem dX2_bring_48 : decode cX2_bring 48 = .ok (.if_icmp .ne 9, 3) := by decide +kernel
theorem dX2_bring_51 : decode cX2_bring 51 = .ok (.aload_n 0, 1) := by decide +kernel
theorem dX2_bring_52 : decode cX2_bring 52 = .ok (.iconst 2, 1) := by decide +kernel
theorem dX2_bring_53 : decode cX2_bring 53 = .ok (.invokevirtual 85, 3) := by decide +kernel
theorem dX2_bring_56 : decode cX2_bring 56 = .ok (.ireturn, 1) := by decide +kernel
theorem dX2_bring_57 : decode cX2_bring 57 = .ok (.aload_n 0, 1) := by decide +kernel
theorem dX2_bring_58 : decode cX2_bring 58 = .ok (.iload_n 1, 1) := by decide +kernel
theorem dX2_bring_59 : decode cX2_bring 59 = .ok (.iload_n 2, 1) := by decide +kernel
theorem dX2_bring_60 : decode cX2_bring 60 = .ok (.iload_n 3, 1) := by decide +kernel
theorem dX2_bring_61 : decode cX2_bring 61 = .ok (.invokevirtual 88, 3) := by decide +kernel
theorem dX2_bring_64 : decode cX2_bring 64 = .ok (.aload_n 0, 1) := by decide +kernel
theorem dX2_bring_65 : decode cX2_bring 65 = .ok (.getfield 42, 3) := by decide +kernel
theorem dX2_bring_68 : decode cX2_bring 68 = .ok (.iconst 1, 1) := by decide +kernel
theorem dX2_bring_69 : decode cX2_bring 69 = .ok (.isub, 1) := by decide +kernel
theorem dX2_bring_70 : decode cX2_bring 70 = .ok (.ireturn, 1) := by decide +kernel
set_option maxRecDepth 20000 in
theorem ggX2_lift_X2_isSack : GoodIn wsX2_lift wsX2_isSack := goodIn_r _ [7, 8, 9, 10, 6, 11, 16, 17, 18, 19, 20, 21, 22, 23, 24, 25, 26, 27] (by decide +kernel) (by decide +kernel)
set_option maxRecDepth 20000 in
theorem gX2_lift_X2_isSack : GoodIn wsX2_lift (wsV RX2 92 RX2 yX2_isSack wsX2_isSack) := goodIn_app (goodIn_of _ (by decide +kernel)) ggX2_lift_X2_isSack
set_option maxRecDepth 20000 in
theorem ggX2_lift_X2_fail : GoodIn wsX2_lift wsX2_fail := goodIn_r _ [15, 1, 16, 17, 18, 19, 20, 21, 22, 23, 24, 25, 26, 27] (by decide +kernel) (by decide +kernel)
set_option maxRecDepth 20000 in
theorem gX2_lift_X2_fail : GoodIn wsX2_lift (wsV RX2 85 RX2 yX2_fail wsX2_fail) := goodIn_app (goodIn_of _ (by decide +kernel)) ggX2_lift_X2_fail
theorem dX2_lift_0 : decode cX2_lift 0 = .ok (.aload_n 0, 1) := by decide +kernel
theorem dX2_lift_1 : decode cX2_lift 1 = .ok (.iconst 0, 1) := by decide +kernel
theorem dX2_lift_2 : decode cX2_lift 2 = .ok (.putfield 31, 3) := by decide +kernel
theorem dX2_lift_5 : decode cX2_lift 5 = .ok (.aload_n 0, 1) := by decide +kernel
theorem dX2_lift_6 : decode cX2_lift 6 = .ok (.iload_n 1, 1) := by decide +kernel
theorem dX2_lift_7 : decode cX2_lift 7 = .ok (.invokevirtual 92, 3) := by decide +kernel
theorem dX2_lift_10 : decode cX2_lift 10 = .ok (.ifCond .ne 9, 3) := by decide +kernel
theorem dX2_lift_13 : decode cX2_lift 13 = .ok (.aload_n 0, 1) := by decide +kernel
theorem dX2_lift_14 : decode cX2_lift 14 = .ok (.iconst 1, 1) := by decide +kernel
theorem dX2_lift_15 : decode cX2_lift 15 = .ok (.invokevirtual 85, 3) := by decide +kernel
theorem dX2_lift_18 : decode cX2_lift 18 = .ok (.ireturn, 1) := by decide +kernel
theorem dX2_lift_19 : decode cX2_lift 19 = .ok (.aload_n 0, 1) := by decide +kernel
theorem dX2_lift_20 : decode cX2_lift 20 = .ok (.getfield 22, 3) := by decide +kernel
theorem dX2_lift_23 : decode cX2_lift 23 = .ok (.bipush 35, 2) := by decide +kernel
theorem dX2_lift_25 : decode cX2_lift 25 = .ok (.iload_n 1, 1) := by decide +kernel
theorem dX2_lift_26 : decode cX2_lift 26 = .ok (.iadd, 1) := by decide +kernel
theorem dX2_lift_27 : decode cX2_lift 27 = .ok (.iaload, 1) := by decide +kernel
theorem dX2_lift_28 : decode cX2_lift 28 = .ok (.istore_n 2, 1) := by decide +kernel
theorem dX2_lift_29 : decode cX2_lift 29 = .ok (.iload_n 2, 1) := by decide +kernel
theorem dX2_lift_30 : decode cX2_lift 30 = .ok (.iconst (-1), 1) := by decide +kernel
theorem dX2_lift_31 : decode cX2_lift 31 = .ok (.if_icmp .ne 9, 3) := by decide +kernel
theorem dX2_lift_34 : decode cX2_lift 34 = .ok (.aload_n 0, 1) := by decide +kernel
theorem dX2_lift_35 : decode cX2_lift 35 = .ok (.iconst 2, 1) := by decide +kernel
theorem dX2_lift_36 : decode cX2_lift 36 = .ok (.invokevirtual 85, 3) := by decide +kernel
theorem dX2_lift_39 : decode cX2_lift 39 = .ok (.ireturn, 1) := by decide +kernel
theorem dX2_lift_40 : decode cX2_lift 40 = .ok (.aload_n 0, 1) := by decide +kernel
theorem dX2_lift_41 : decode cX2_lift 41 = .ok (.getfield 22, 3) := by decide +kernel
theorem dX2_lift_44 : decode cX2_lift 44 = .ok (.bipush 35, 2) := by decide +kernel
theorem dX2_lift_46 : decode cX2_lift 46 = .ok (.iload_n 1, 1) := by decide +kernel
theorem dX2_lift_47 : decode cX2_lift 47 = .ok (.iadd, 1) := by decide +kernel
theorem dX2_lift_48 : decode cX2_lift 48 = .ok (.iconst (-1), 1) := by decide +kernel
theorem dX2_lift_49 : decode cX2_lift 49 = .ok (.iastore, 1) := by decide +kernel
theorem dX2_lift_50 : decode cX2_lift 50 = .ok (.iload_n 2, 1) := by decide +kernel
theorem dX2_lift_51 : decode cX2_lift 51 = .ok (.ireturn, 1) := by decide +kernel
set_option maxRecDepth 20000 in
theorem ggX2_setUntil_X2_isSack : GoodIn wsX2_setUntil wsX2_isSack := goodIn_r _ [7, 8, 9, 10, 6, 11, 16, 17, 18, 19, 20, 21, 22, 23, 24, 25, 26, 27] (by decide +kernel) (by decide +kernel)
set_option maxRecDepth 20000 in
theorem gX2_setUntil_X2_isSack : GoodIn wsX2_setUntil (wsV RX2 92 RX2 yX2_isSack wsX2_isSack) := goodIn_app (goodIn_of _ (by decide +kernel)) ggX2_setUntil_X2_isSack
set_option maxRecDepth 20000 in
theorem ggX2_setUntil_X2_fail : GoodIn wsX2_setUntil wsX2_fail := goodIn_r _ [15, 1, 16, 17, 18, 19, 20, 21, 22, 23, 24, 25, 26, 27] (by decide +kernel) (by decide +kernel)
set_option maxRecDepth 20000 in
theorem gX2_setUntil_X2_fail : GoodIn wsX2_setUntil (wsV RX2 85 RX2 yX2_fail wsX2_fail) := goodIn_app (goodIn_of _ (by decide +kernel)) ggX2_setUntil_X2_fail
set_option maxRecDepth 20000 in
theorem ggX2_setUntil_X2_isIn : GoodIn wsX2_setUntil wsX2_isIn := goodIn_r _ [11] (by decide +kernel) (by decide +kernel)
set_option maxRecDepth 20000 in
theorem gX2_setUntil_X2_isIn : GoodIn wsX2_setUntil (va_wsS RX2 38 yX2_isIn wsX2_isIn) := goodIn_app (goodIn_of _ (by decide +kernel)) ggX2_setUntil_X2_isIn
theorem dX2_setUntil_0 : decode cX2_setUntil 0 = .ok (.aload_n 0, 1) := by decide +kernel
theorem dX2_setUntil_1 : decode cX2_setUntil 1 = .ok (.iconst 0, 1) := by decide +kernel
theorem dX2_setUntil_2 : decode cX2_setUntil 2 = .ok (.putfield 31, 3) := by decide +kernel
theorem dX2_setUntil_5 : decode cX2_setUntil 5 = .ok (.aload_n 0, 1) := by decide +kernel
theorem dX2_setUntil_6 : decode cX2_setUntil 6 = .ok (.iload_n 1, 1) := by decide +kernel
theorem dX2_setUntil_7 : decode cX2_setUntil 7 = .ok (.invokevirtual 92, 3) := by decide +kernel
theorem dX2_setUntil_10 : decode cX2_setUntil 10 = .ok (.ifCond .ne 9, 3) := by decide +kernel
theorem dX2_setUntil_13 : decode cX2_setUntil 13 = .ok (.aload_n 0, 1) := by decide +kernel
theorem dX2_setUntil_14 : decode cX2_setUntil 14 = .ok (.iconst 1, 1) := by decide +kernel
theorem dX2_setUntil_15 : decode cX2_setUntil 15 = .ok (.invokevirtual 85, 3) := by decide +kernel
theorem dX2_setUntil_18 : decode cX2_setUntil 18 = .ok (.ireturn, 1) := by decide +kernel
theorem dX2_setUntil_19 : decode cX2_setUntil 19 = .ok (.iload_n 2, 1) := by decide +kernel
theorem dX2_setUntil_20 : decode cX2_setUntil 20 = .ok (.iconst 1, 1) := by decide +kernel
theorem dX2_setUntil_21 : decode cX2_setUntil 21 = .ok (.sipush 200, 3) := by decide +kernel
theorem dX2_setUntil_24 : decode cX2_setUntil 24 = .ok (.invokestatic 38, 3) := by decide +kernel
theorem dX2_setUntil_27 : decode cX2_setUntil 27 = .ok (.ifCond .ne 9, 3) := by decide +kernel
theorem dX2_setUntil_30 : decode cX2_setUntil 30 = .ok (.aload_n 0, 1) := by decide +kernel
theorem dX2_setUntil_31 : decode cX2_setUntil 31 = .ok (.iconst 2, 1) := by decide +kernel
theorem dX2_setUntil_32 : decode cX2_setUntil 32 = .ok (.invokevirtual 85, 3) := by decide +kernel
theorem dX2_setUntil_35 : decode cX2_setUntil 35 = .ok (.ireturn, 1) := by decide +kernel
theorem dX2_setUntil_36 : decode cX2_setUntil 36 = .ok (.aload_n 0, 1) := by decide +kernel
theorem dX2_setUntil_37 : decode cX2_setUntil 37 = .ok (.getfield 19, 3) := by decide +kernel
theorem dX2_setUntil_40 : decode cX2_setUntil 40 = .ok (.iload_n 1, 1) := by decide +kernel
theorem dX2_setUntil_41 : decode cX2_setUntil 41 = .ok (.iaload, 1) := by decide +kernel
theorem dX2_setUntil_42 : decode cX2_setUntil 42 = .ok (.istore_n 3, 1) := by decide +kernel
theorem dX2_setUntil_43 : decode cX2_setUntil 43 = .ok (.aload_n 0, 1) := by decide +kernel
theorem dX2_setUntil_44 : decode cX2_setUntil 44 = .ok (.getfield 19, 3) := by decide +kernel
theorem dX2_setUntil_47 : decode cX2_setUntil 47 = .ok (.iload_n 1, 1) := by decide +kernel
theorem dX2_setUntil_48 : decode cX2_setUntil 48 = .ok (.iload_n 2, 1) := by decide +kernel
theorem dX2_setUntil_49 : decode cX2_setUntil 49 = .ok (.iastore, 1) := by decide +kernel
theorem dX2_setUntil_50 : decode cX2_setUntil 50 = .ok (.iload_n 3, 1) := by decide +kernel
theorem dX2_setUntil_51 : decode cX2_setUntil 51 = .ok (.ireturn, 1) := by decide +kernel
set_option maxRecDepth 20000 in
theorem ggX2_pass_X2_isIn : GoodIn wsX2_pass wsX2_isIn := goodIn_r _ [6] (by decide +kernel) (by decide +kernel)
set_option maxRecDepth 20000 in
theorem gX2_pass_X2_isIn : GoodIn wsX2_pass (va_wsS RX2 38 yX2_isIn wsX2_isIn) := goodIn_app (goodIn_of _ (by decide +kernel)) ggX2_pass_X2_isIn
set_option maxRecDepth 20000 in
theorem ggX2_pass_X2_fail : GoodIn wsX2_pass wsX2_fail := goodIn_r _ [10, 1, 51, 52, 53, 54, 55, 56, 57, 58, 59, 60, 61, 62] (by decide +kernel) (by decide +kernel)
set_option maxRecDepth 20000 in
theorem gX2_pass_X2_fail : GoodIn wsX2_pass (wsV RX2 85 RX2 yX2_fail wsX2_fail) := goodIn_app (goodIn_of _ (by decide +kernel)) ggX2_pass_X2_fail
set_option maxRecDepth 20000 in
theorem ggX2_pass_X2_hoursOn : GoodIn wsX2_pass wsX2_hoursOn := goodIn_r _ [14, 15, 16, 17, 5, 18, 19, 20, 2, 21, 22, 23, 24, 25, 26, 27, 28, 29, 30, 31, 32, 33, 34, 35, 36, 37, 38, 39, 40, 41, 42, 43, 44, 45, 46, 47, 48, 49, 50, 51, 52, 53, 54, 55, 56, 57, 58, 59, 60, 61, 62] (by decide +kernel) (by decide +kernel)
set_option maxRecDepth 20000 in
theorem gX2_pass_X2_hoursOn : GoodIn wsX2_pass (wsV RX2 95 RX2 yX2_hoursOn wsX2_hoursOn) := goodIn_app (goodIn_of _ (by decide +kernel)) ggX2_pass_X2_hoursOn
theorem dX2_pass_0 : decode cX2_pass 0 = .ok (.aload_n 0, 1) := by decide +kernel
theorem dX2_pass_1 : decode cX2_pass 1 = .ok (.iconst 0, 1) := by decide +kernel
theorem dX2_pass_2 : decode cX2_pass 2 = .ok (.putfield 31, 3) := by decide +kernel
theorem dX2_pass_5 : decode cX2_pass 5 = .ok (.iload_n 1, 1) := by decide +kernel
theorem dX2_pass_6 : decode cX2_pass 6 = .ok (.iconst 1, 1) := by decide +kernel
theorem dX2_pass_7 : decode cX2_pass 7 = .ok (.bipush 60, 2) := by decide +kernel
theorem dX2_pass_9 : decode cX2_pass 9 = .ok (.invokestatic 38, 3) := by decide +kernel
theorem dX2_pass_12 : decode cX2_pass 12 = .ok (.ifCond .ne 9, 3) := by decide +kernel
theorem dX2_pass_15 : decode cX2_pass 15 = .ok (.aload_n 0, 1) := by decide +kernel
theorem dX2_pass_16 : decode cX2_pass 16 = .ok (.iconst 1, 1) := by decide +kernel
theorem dX2_pass_17 : decode cX2_pass 17 = .ok (.invokevirtual 85, 3) := by decide +kernel
theorem dX2_pass_20 : decode cX2_pass 20 = .ok (.ireturn, 1) := by decide +kernel
theorem dX2_pass_21 : decode cX2_pass 21 = .ok (.aload_n 0, 1) := by decide +kernel
theorem dX2_pass_22 : decode cX2_pass 22 = .ok (.getfield 22, 3) := by decide +kernel
theorem dX2_pass_25 : decode cX2_pass 25 = .ok (.iconst 2, 1) := by decide +kernel
theorem dX2_pass_26 : decode cX2_pass 26 = .ok (.iaload, 1) := by decide +kernel
theorem dX2_pass_27 : decode cX2_pass 27 = .ok (.istore_n 2, 1) := by decide +kernel
theorem dX2_pass_28 : decode cX2_pass 28 = .ok (.aload_n 0, 1) := by decide +kernel
theorem dX2_pass_29 : decode cX2_pass 29 = .ok (.iload_n 1, 1) := by decide +kernel
theorem dX2_pass_30 : decode cX2_pass 30 = .ok (.invokevirtual 95, 3) := by decide +kernel
theorem dX2_pass_33 : decode cX2_pass 33 = .ok (.aload_n 0, 1) := by decide +kernel
theorem dX2_pass_34 : decode cX2_pass 34 = .ok (.getfield 22, 3) := by decide +kernel
theorem dX2_pass_37 : decode cX2_pass 37 = .ok (.iconst 2, 1) := by decide +kernel
theorem dX2_pass_38 : decode cX2_pass 38 = .ok (.iaload, 1) := by decide +kernel
theorem dX2_pass_39 : decode cX2_pass 39 = .ok (.iload_n 2, 1) := by decide +kernel
theorem dX2_pass_40 : decode cX2_pass 40 = .ok (.isub, 1) := by decide +kernel
theorem dX2_pass_41 : decode cX2_pass 41 = .ok (.ireturn, 1) := by decide +kernel
set_option maxRecDepth 20000 in
theorem ggX2_hour_X2_told : GoodIn wsX2_hour wsX2_told := goodIn_r _ [6, 7, 8, 9, 10, 11, 12, 13, 14, 15, 16, 17, 18, 19] (by decide +kernel) (by decide +kernel)
set_option maxRecDepth 20000 in
theorem gX2_hour_X2_told : GoodIn wsX2_hour (wsV RX2 99 RX2 yX2_told wsX2_told) := goodIn_app (goodIn_of _ (by decide +kernel)) ggX2_hour_X2_told
theorem dX2_hour_0 : decode cX2_hour 0 = .ok (.aload_n 0, 1) := by decide +kernel
theorem dX2_hour_1 : decode cX2_hour 1 = .ok (.aload_n 0, 1) := by decide +kernel
theorem dX2_hour_2 : decode cX2_hour 2 = .ok (.getfield 22, 3) := by decide +kernel
theorem dX2_hour_5 : decode cX2_hour 5 = .ok (.iconst 0, 1) := by decide +kernel
theorem dX2_hour_6 : decode cX2_hour 6 = .ok (.iaload, 1) := by decide +kernel
theorem dX2_hour_7 : decode cX2_hour 7 = .ok (.invokevirtual 99, 3) := by decide +kernel
theorem dX2_hour_10 : decode cX2_hour 10 = .ok (.ireturn, 1) := by decide +kernel
set_option maxRecDepth 20000 in
theorem ggX2_stones_X2_told : GoodIn wsX2_stones wsX2_told := goodIn_r _ [6, 7, 8, 9, 10, 11, 12, 13, 14, 15, 16, 17, 18, 19] (by decide +kernel) (by decide +kernel)
set_option maxRecDepth 20000 in
theorem gX2_stones_X2_told : GoodIn wsX2_stones (wsV RX2 99 RX2 yX2_told wsX2_told) := goodIn_app (goodIn_of _ (by decide +kernel)) ggX2_stones_X2_told
theorem dX2_stones_0 : decode cX2_stones 0 = .ok (.aload_n 0, 1) := by decide +kernel
theorem dX2_stones_1 : decode cX2_stones 1 = .ok (.aload_n 0, 1) := by decide +kernel
theorem dX2_stones_2 : decode cX2_stones 2 = .ok (.getfield 35, 3) := by decide +kernel
theorem dX2_stones_5 : decode cX2_stones 5 = .ok (.invokevirtual 99, 3) := by decide +kernel
theorem dX2_stones_8 : decode cX2_stones 8 = .ok (.ireturn, 1) := by decide +kernel
set_option maxRecDepth 20000 in
theorem ggX2_sacks_X2_told : GoodIn wsX2_sacks wsX2_told := goodIn_r _ [6, 7, 8, 9, 10, 11, 12, 13, 14, 15, 16, 17, 18, 19] (by decide +kernel) (by decide +kernel)
set_option maxRecDepth 20000 in
theorem gX2_sacks_X2_told : GoodIn wsX2_sacks (wsV RX2 99 RX2 yX2_told wsX2_told) := goodIn_app (goodIn_of _ (by decide +kernel)) ggX2_sacks_X2_told
theorem dX2_sacks_0 : decode cX2_sacks 0 = .ok (.aload_n 0, 1) := by decide +kernel
theorem dX2_sacks_1 : decode cX2_sacks 1 = .ok (.aload_n 0, 1) := by decide +kernel
theorem dX2_sacks_2 : decode cX2_sacks 2 = .ok (.getfield 42, 3) := by decide +kernel
theorem dX2_sacks_5 : decode cX2_sacks 5 = .ok (.invokevirtual 99, 3) := by decide +kernel
theorem dX2_sacks_8 : decode cX2_sacks 8 = .ok (.ireturn, 1) := by decide +kernel
set_option maxRecDepth 20000 in
theorem ggX2_rule_X2_told : GoodIn wsX2_rule wsX2_told := goodIn_r _ [6, 7, 8, 9, 10, 11, 12, 13, 14, 15, 16, 17, 18, 19] (by decide +kernel) (by decide +kernel)
set_option maxRecDepth 20000 in
theorem gX2_rule_X2_told : GoodIn wsX2_rule (wsV RX2 99 RX2 yX2_told wsX2_told) := goodIn_app (goodIn_of _ (by decide +kernel)) ggX2_rule_X2_told
theorem dX2_rule_0 : decode cX2_rule 0 = .ok (.aload_n 0, 1) := by decide +kernel
theorem dX2_rule_1 : decode cX2_rule 1 = .ok (.aload_n 0, 1) := by decide +kernel
theorem dX2_rule_2 : decode cX2_rule 2 = .ok (.getfield 51, 3) := by decide +kernel
theorem dX2_rule_5 : decode cX2_rule 5 = .ok (.invokevirtual 99, 3) := by decide +kernel
theorem dX2_rule_8 : decode cX2_rule 8 = .ok (.ireturn, 1) := by decide +kernel
set_option maxRecDepth 20000 in
theorem ggX2_wind_X2_told : GoodIn wsX2_wind wsX2_told := goodIn_r _ [7, 8, 9, 10, 11, 12, 13, 14, 15, 16, 17, 18, 19, 20] (by decide +kernel) (by decide +kernel)
set_option maxRecDepth 20000 in
theorem gX2_wind_X2_told : GoodIn wsX2_wind (wsV RX2 99 RX2 yX2_told wsX2_told) := goodIn_app (goodIn_of _ (by decide +kernel)) ggX2_wind_X2_told
theorem dX2_wind_0 : decode cX2_wind 0 = .ok (.aload_n 0, 1) := by decide +kernel
theorem dX2_wind_1 : decode cX2_wind 1 = .ok (.aload_n 0, 1) := by decide +kernel
theorem dX2_wind_2 : decode cX2_wind 2 = .ok (.getfield 13, 3) := by decide +kernel
theorem dX2_wind_5 : decode cX2_wind 5 = .ok (.aload_n 0, 1) := by decide +kernel
theorem dX2_wind_6 : decode cX2_wind 6 = .ok (.getfield 22, 3) := by decide +kernel
theorem dX2_wind_9 : decode cX2_wind 9 = .ok (.iconst 0, 1) := by decide +kernel
theorem dX2_wind_10 : decode cX2_wind 10 = .ok (.iaload, 1) := by decide +kernel
theorem dX2_wind_11 : decode cX2_wind 11 = .ok (.bipush 12, 2) := by decide +kernel
theorem dX2_wind_13 : decode cX2_wind 13 = .ok (.irem, 1) := by decide +kernel
theorem dX2_wind_14 : decode cX2_wind 14 = .ok (.iaload, 1) := by decide +kernel
theorem dX2_wind_15 : decode cX2_wind 15 = .ok (.invokevirtual 99, 3) := by decide +kernel
theorem dX2_wind_18 : decode cX2_wind 18 = .ok (.ireturn, 1) := by decide +kernel
set_option maxRecDepth 20000 in
theorem ggX2_sackOn_X2_isStone : GoodIn wsX2_sackOn wsX2_isStone := goodIn_r _ [6, 7, 8, 9, 5, 10, 21, 22, 23, 24, 25, 26, 27, 28, 29, 30, 31, 32] (by decide +kernel) (by decide +kernel)
set_option maxRecDepth 20000 in
theorem gX2_sackOn_X2_isStone : GoodIn wsX2_sackOn (wsV RX2 102 RX2 yX2_isStone wsX2_isStone) := goodIn_app (goodIn_of _ (by decide +kernel)) ggX2_sackOn_X2_isStone
set_option maxRecDepth 20000 in
theorem ggX2_sackOn_X2_on : GoodIn wsX2_sackOn wsX2_on := goodIn_r _ [14, 15, 16, 21, 22, 23, 24, 25, 26, 27, 28, 29, 30, 31, 32] (by decide +kernel) (by decide +kernel)
set_option maxRecDepth 20000 in
theorem gX2_sackOn_X2_on : GoodIn wsX2_sackOn (wsV RX2 69 RX2 yX2_on wsX2_on) := goodIn_app (goodIn_of _ (by decide +kernel)) ggX2_sackOn_X2_on
set_option maxRecDepth 20000 in
theorem ggX2_sackOn_X2_fail : GoodIn wsX2_sackOn wsX2_fail := goodIn_r _ [20, 1, 21, 22, 23, 24, 25, 26, 27, 28, 29, 30, 31, 32] (by decide +kernel) (by decide +kernel)
set_option maxRecDepth 20000 in
theorem gX2_sackOn_X2_fail : GoodIn wsX2_sackOn (wsV RX2 85 RX2 yX2_fail wsX2_fail) := goodIn_app (goodIn_of _ (by decide +kernel)) ggX2_sackOn_X2_fail
theorem dX2_sackOn_0 : decode cX2_sackOn 0 = .ok (.aload_n 0, 1) := by decide +kernel
theorem dX2_sackOn_1 : decode cX2_sackOn 1 = .ok (.iconst 0, 1) := by decide +kernel
theorem dX2_sackOn_2 : decode cX2_sackOn 2 = .ok (.putfield 31, 3) := by decide +kernel
theorem dX2_sackOn_5 : decode cX2_sackOn 5 = .ok (.aload_n 0, 1) := by decide +kernel
theorem dX2_sackOn_6 : decode cX2_sackOn 6 = .ok (.iload_n 1, 1) := by decide +kernel
theorem dX2_sackOn_7 : decode cX2_sackOn 7 = .ok (.invokevirtual 102, 3) := by decide +kernel
theorem dX2_sackOn_10 : decode cX2_sackOn 10 = .ok (.ifCond .eq 11, 3) := by decide +kernel
theorem dX2_sackOn_13 : decode cX2_sackOn 13 = .ok (.aload_n 0, 1) := by decide +kernel
theorem dX2_sackOn_14 : decode cX2_sackOn 14 = .ok (.iload_n 1, 1) := by decide +kernel
theorem dX2_sackOn_15 : decode cX2_sackOn 15 = .ok (.invokevirtual 69, 3) := by decide +kernel
theorem dX2_sackOn_18 : decode cX2_sackOn 18 = .ok (.goto 8, 3) := by decide +kernel
theorem dX2_sackOn_21 : decode cX2_sackOn 21 = .ok (.aload_n 0, 1) := by decide +kernel
theorem dX2_sackOn_22 : decode cX2_sackOn 22 = .ok (.iconst 1, 1) := by decide +kernel
theorem dX2_sackOn_23 : decode cX2_sackOn 23 = .ok (.invokevirtual 85, 3) := by decide +kernel
theorem dX2_sackOn_26 : decode cX2_sackOn 26 = .ok (.ireturn, 1) := by decide +kernel
set_option maxRecDepth 20000 in
theorem ggX2_of_X2_isSack : GoodIn wsX2_of wsX2_isSack := goodIn_r _ [7, 8, 9, 10, 6, 11, 16, 17, 18, 19, 20, 21, 22, 23, 24, 25, 26, 27] (by decide +kernel) (by decide +kernel)
set_option maxRecDepth 20000 in
theorem gX2_of_X2_isSack : GoodIn wsX2_of (wsV RX2 92 RX2 yX2_isSack wsX2_isSack) := goodIn_app (goodIn_of _ (by decide +kernel)) ggX2_of_X2_isSack
set_option maxRecDepth 20000 in
theorem ggX2_of_X2_fail : GoodIn wsX2_of wsX2_fail := goodIn_r _ [15, 1, 16, 17, 18, 19, 20, 21, 22, 23, 24, 25, 26, 27] (by decide +kernel) (by decide +kernel)
set_option maxRecDepth 20000 in
theorem gX2_of_X2_fail : GoodIn wsX2_of (wsV RX2 85 RX2 yX2_fail wsX2_fail) := goodIn_app (goodIn_of _ (by decide +kernel)) ggX2_of_X2_fail
theorem dX2_of_0 : decode cX2_of 0 = .ok (.aload_n 0, 1) := by decide +kernel
theorem dX2_of_1 : decode cX2_of 1 = .ok (.iconst 0, 1) := by decide +kernel
theorem dX2_of_2 : decode cX2_of 2 = .ok (.putfield 31, 3) := by decide +kernel
theorem dX2_of_5 : decode cX2_of 5 = .ok (.aload_n 0, 1) := by decide +kernel
theorem dX2_of_6 : decode cX2_of 6 = .ok (.iload_n 1, 1) := by decide +kernel
theorem dX2_of_7 : decode cX2_of 7 = .ok (.invokevirtual 92, 3) := by decide +kernel
theorem dX2_of_10 : decode cX2_of 10 = .ok (.ifCond .eq 14, 3) := by decide +kernel
theorem dX2_of_13 : decode cX2_of 13 = .ok (.aload_n 0, 1) := by decide +kernel
theorem dX2_of_14 : decode cX2_of 14 = .ok (.getfield 22, 3) := by decide +kernel
theorem dX2_of_17 : decode cX2_of 17 = .ok (.iload_n 2, 1) := by decide +kernel
theorem dX2_of_18 : decode cX2_of 18 = .ok (.iload_n 1, 1) := by decide +kernel
theorem dX2_of_19 : decode cX2_of 19 = .ok (.iadd, 1) := by decide +kernel
theorem dX2_of_20 : decode cX2_of 20 = .ok (.iaload, 1) := by decide +kernel
theorem dX2_of_21 : decode cX2_of 21 = .ok (.goto 8, 3) := by decide +kernel
theorem dX2_of_24 : decode cX2_of 24 = .ok (.aload_n 0, 1) := by decide +kernel
theorem dX2_of_25 : decode cX2_of 25 = .ok (.iconst 1, 1) := by decide +kernel
theorem dX2_of_26 : decode cX2_of 26 = .ok (.invokevirtual 85, 3) := by decide +kernel
theorem dX2_of_29 : decode cX2_of 29 = .ok (.ireturn, 1) := by decide +kernel
set_option maxRecDepth 20000 in
theorem ggX2_stoneOf_X2_of : GoodIn wsX2_stoneOf wsX2_of := goodIn_r _ [5, 6, 7, 8, 9, 10, 4, 11, 12, 13, 14, 15, 16, 17, 18, 19, 20, 21, 22, 23, 24, 25, 26, 27, 28, 29, 30, 31] (by decide +kernel) (by decide +kernel)
set_option maxRecDepth 20000 in
theorem gX2_stoneOf_X2_of : GoodIn wsX2_stoneOf (wsV RX2 105 RX2 yX2_of wsX2_of) := goodIn_app (goodIn_of _ (by decide +kernel)) ggX2_stoneOf_X2_of
theorem dX2_stoneOf_0 : decode cX2_stoneOf 0 = .ok (.aload_n 0, 1) := by decide +kernel
theorem dX2_stoneOf_1 : decode cX2_stoneOf 1 = .ok (.iload_n 1, 1) := by decide +kernel
theorem dX2_stoneOf_2 : decode cX2_stoneOf 2 = .ok (.bipush 35, 2) := by decide +kernel
theorem dX2_stoneOf_4 : decode cX2_stoneOf 4 = .ok (.invokevirtual 105, 3) := by decide +kernel
theorem dX2_stoneOf_7 : decode cX2_stoneOf 7 = .ok (.ireturn, 1) := by decide +kernel
set_option maxRecDepth 20000 in
theorem ggX2_leftOf_X2_of : GoodIn wsX2_leftOf wsX2_of := goodIn_r _ [5, 6, 7, 8, 9, 10, 4, 11, 12, 13, 14, 15, 16, 17, 18, 19, 20, 21, 22, 23, 24, 25, 26, 27, 28, 29, 30, 31] (by decide +kernel) (by decide +kernel)
set_option maxRecDepth 20000 in
theorem gX2_leftOf_X2_of : GoodIn wsX2_leftOf (wsV RX2 105 RX2 yX2_of wsX2_of) := goodIn_app (goodIn_of _ (by decide +kernel)) ggX2_leftOf_X2_of
theorem dX2_leftOf_0 : decode cX2_leftOf 0 = .ok (.aload_n 0, 1) := by decide +kernel
theorem dX2_leftOf_1 : decode cX2_leftOf 1 = .ok (.iload_n 1, 1) := by decide +kernel
theorem dX2_leftOf_2 : decode cX2_leftOf 2 = .ok (.iconst 3, 1) := by decide +kernel
theorem dX2_leftOf_3 : decode cX2_leftOf 3 = .ok (.invokevirtual 105, 3) := by decide +kernel
theorem dX2_leftOf_6 : decode cX2_leftOf 6 = .ok (.ireturn, 1) := by decide +kernel
set_option maxRecDepth 20000 in
theorem ggX2_untilOf_X2_isSack : GoodIn wsX2_untilOf wsX2_isSack := goodIn_r _ [7, 8, 9, 10, 6, 11, 16, 17, 18, 19, 20, 21, 22, 23, 24, 25, 26, 27] (by decide +kernel) (by decide +kernel)
set_option maxRecDepth 20000 in
theorem gX2_untilOf_X2_isSack : GoodIn wsX2_untilOf (wsV RX2 92 RX2 yX2_isSack wsX2_isSack) := goodIn_app (goodIn_of _ (by decide +kernel)) ggX2_untilOf_X2_isSack
set_option maxRecDepth 20000 in
theorem ggX2_untilOf_X2_fail : GoodIn wsX2_untilOf wsX2_fail := goodIn_r _ [15, 1, 16, 17, 18, 19, 20, 21, 22, 23, 24, 25, 26, 27] (by decide +kernel) (by decide +kernel)
set_option maxRecDepth 20000 in
theorem gX2_untilOf_X2_fail : GoodIn wsX2_untilOf (wsV RX2 85 RX2 yX2_fail wsX2_fail) := goodIn_app (goodIn_of _ (by decide +kernel)) ggX2_untilOf_X2_fail
theorem dX2_untilOf_0 : decode cX2_untilOf 0 = .ok (.aload_n 0, 1) := by decide +kernel
theorem dX2_untilOf_1 : decode cX2_untilOf 1 = .ok (.iconst 0, 1) := by decide +kernel
theorem dX2_untilOf_2 : decode cX2_untilOf 2 = .ok (.putfield 31, 3) := by decide +kernel
theorem dX2_untilOf_5 : decode cX2_untilOf 5 = .ok (.aload_n 0, 1) := by decide +kernel
theorem dX2_untilOf_6 : decode cX2_untilOf 6 = .ok (.iload_n 1, 1) := by decide +kernel
theorem dX2_untilOf_7 : decode cX2_untilOf 7 = .ok (.invokevirtual 92, 3) := by decide +kernel
theorem dX2_untilOf_10 : decode cX2_untilOf 10 = .ok (.ifCond .eq 12, 3) := by decide +kernel
theorem dX2_untilOf_13 : decode cX2_untilOf 13 = .ok (.aload_n 0, 1) := by decide +kernel
theorem dX2_untilOf_14 : decode cX2_untilOf 14 = .ok (.getfield 19, 3) := by decide +kernel
theorem dX2_untilOf_17 : decode cX2_untilOf 17 = .ok (.iload_n 1, 1) := by decide +kernel
theorem dX2_untilOf_18 : decode cX2_untilOf 18 = .ok (.iaload, 1) := by decide +kernel
theorem dX2_untilOf_19 : decode cX2_untilOf 19 = .ok (.goto 8, 3) := by decide +kernel
theorem dX2_untilOf_22 : decode cX2_untilOf 22 = .ok (.aload_n 0, 1) := by decide +kernel
theorem dX2_untilOf_23 : decode cX2_untilOf 23 = .ok (.iconst 1, 1) := by decide +kernel
theorem dX2_untilOf_24 : decode cX2_untilOf 24 = .ok (.invokevirtual 85, 3) := by decide +kernel
theorem dX2_untilOf_27 : decode cX2_untilOf 27 = .ok (.ireturn, 1) := by decide +kernel
set_option maxRecDepth 20000 in
theorem ggX2_groundAt_X2_of : GoodIn wsX2_groundAt wsX2_of := goodIn_r _ [5, 6, 7, 8, 9, 10, 4, 11, 12, 13, 14, 15, 16, 17, 18, 19, 20, 21, 22, 23, 24, 25, 26, 27, 28, 29, 30, 31] (by decide +kernel) (by decide +kernel)
set_option maxRecDepth 20000 in
theorem gX2_groundAt_X2_of : GoodIn wsX2_groundAt (wsV RX2 105 RX2 yX2_of wsX2_of) := goodIn_app (goodIn_of _ (by decide +kernel)) ggX2_groundAt_X2_of
theorem dX2_groundAt_0 : decode cX2_groundAt 0 = .ok (.aload_n 0, 1) := by decide +kernel
theorem dX2_groundAt_1 : decode cX2_groundAt 1 = .ok (.iload_n 1, 1) := by decide +kernel
theorem dX2_groundAt_2 : decode cX2_groundAt 2 = .ok (.bipush 19, 2) := by decide +kernel
theorem dX2_groundAt_4 : decode cX2_groundAt 4 = .ok (.invokevirtual 105, 3) := by decide +kernel
theorem dX2_groundAt_7 : decode cX2_groundAt 7 = .ok (.ireturn, 1) := by decide +kernel
set_option maxRecDepth 20000 in
theorem ggX2_done_X2_isDone : GoodIn wsX2_done wsX2_isDone := goodIn_r _ [6, 7, 8, 9, 10, 11, 12, 13, 14, 15, 16, 17, 18, 19] (by decide +kernel) (by decide +kernel)
set_option maxRecDepth 20000 in
theorem gX2_done_X2_isDone : GoodIn wsX2_done (wsV RX2 54 RX2 yX2_isDone wsX2_isDone) := goodIn_app (goodIn_of _ (by decide +kernel)) ggX2_done_X2_isDone
theorem dX2_done_0 : decode cX2_done 0 = .ok (.iconst 0, 1) := by decide +kernel
theorem dX2_done_1 : decode cX2_done 1 = .ok (.istore_n 1, 1) := by decide +kernel
theorem dX2_done_2 : decode cX2_done 2 = .ok (.iconst 0, 1) := by decide +kernel
theorem dX2_done_3 : decode cX2_done 3 = .ok (.istore_n 2, 1) := by decide +kernel
theorem dX2_done_4 : decode cX2_done 4 = .ok (.iload_n 2, 1) := by decide +kernel
theorem dX2_done_5 : decode cX2_done 5 = .ok (.aload_n 0, 1) := by decide +kernel
theorem dX2_done_6 : decode cX2_done 6 = .ok (.getfield 42, 3) := by decide +kernel
theorem dX2_done_9 : decode cX2_done 9 = .ok (.if_icmp .ge 25, 3) := by decide +kernel
theorem dX2_done_12 : decode cX2_done 12 = .ok (.iload_n 1, 1) := by decide +kernel
theorem dX2_done_13 : decode cX2_done 13 = .ok (.aload_n 0, 1) := by decide +kernel
theorem dX2_done_14 : decode cX2_done 14 = .ok (.iload_n 2, 1) := by decide +kernel
theorem dX2_done_15 : decode cX2_done 15 = .ok (.invokevirtual 54, 3) := by decide +kernel
theorem dX2_done_18 : decode cX2_done 18 = .ok (.ifCond .eq 7, 3) := by decide +kernel
theorem dX2_done_21 : decode cX2_done 21 = .ok (.iconst 1, 1) := by decide +kernel
theorem dX2_done_22 : decode cX2_done 22 = .ok (.goto 4, 3) := by decide +kernel
theorem dX2_done_25 : decode cX2_done 25 = .ok (.iconst 0, 1) := by decide +kernel
theorem dX2_done_26 : decode cX2_done 26 = .ok (.iadd, 1) := by decide +kernel
theorem dX2_done_27 : decode cX2_done 27 = .ok (.istore_n 1, 1) := by decide +kernel
theorem dX2_done_28 : decode cX2_done 28 = .ok (.iinc 2 1, 3) := by decide +kernel
theorem dX2_done_31 : decode cX2_done 31 = .ok (.goto (-27), 3) := by decide +kernel
theorem dX2_done_34 : decode cX2_done 34 = .ok (.iload_n 1, 1) := by decide +kernel
theorem dX2_done_35 : decode cX2_done 35 = .ok (.ireturn, 1) := by decide +kernel
set_option maxRecDepth 20000 in
theorem ggX2_ground_X2_done : GoodIn wsX2_ground wsX2_done := goodIn_r _ [5, 6, 7, 8, 9, 4, 10, 11, 17, 18, 19, 20, 21, 22, 23, 24, 25, 26, 27, 28] (by decide +kernel) (by decide +kernel)
set_option maxRecDepth 20000 in
theorem gX2_ground_X2_done : GoodIn wsX2_ground (wsV RX2 108 RX2 yX2_done wsX2_done) := goodIn_app (goodIn_of _ (by decide +kernel)) ggX2_ground_X2_done
set_option maxRecDepth 20000 in
theorem ggX2_ground_X2_told : GoodIn wsX2_ground wsX2_told := goodIn_r _ [15, 16, 17, 18, 19, 20, 21, 22, 23, 24, 25, 26, 27, 28] (by decide +kernel) (by decide +kernel)
set_option maxRecDepth 20000 in
theorem gX2_ground_X2_told : GoodIn wsX2_ground (wsV RX2 99 RX2 yX2_told wsX2_told) := goodIn_app (goodIn_of _ (by decide +kernel)) ggX2_ground_X2_told
theorem dX2_ground_0 : decode cX2_ground 0 = .ok (.aload_n 0, 1) := by decide +kernel
theorem dX2_ground_1 : decode cX2_ground 1 = .ok (.aload_n 0, 1) := by decide +kernel
theorem dX2_ground_2 : decode cX2_ground 2 = .ok (.invokevirtual 108, 3) := by decide +kernel
theorem dX2_ground_5 : decode cX2_ground 5 = .ok (.invokevirtual 99, 3) := by decide +kernel
theorem dX2_ground_8 : decode cX2_ground 8 = .ok (.ireturn, 1) := by decide +kernel
set_option maxRecDepth 20000 in
theorem ggX2_changes_X2_told : GoodIn wsX2_changes wsX2_told := goodIn_r _ [6, 7, 8, 9, 10, 11, 12, 13, 14, 15, 16, 17, 18, 19] (by decide +kernel) (by decide +kernel)
set_option maxRecDepth 20000 in
theorem gX2_changes_X2_told : GoodIn wsX2_changes (wsV RX2 99 RX2 yX2_told wsX2_told) := goodIn_app (goodIn_of _ (by decide +kernel)) ggX2_changes_X2_told
theorem dX2_changes_0 : decode cX2_changes 0 = .ok (.aload_n 0, 1) := by decide +kernel
theorem dX2_changes_1 : decode cX2_changes 1 = .ok (.aload_n 0, 1) := by decide +kernel
theorem dX2_changes_2 : decode cX2_changes 2 = .ok (.getfield 22, 3) := by decide +kernel
theorem dX2_changes_5 : decode cX2_changes 5 = .ok (.iconst 1, 1) := by decide +kernel
theorem dX2_changes_6 : decode cX2_changes 6 = .ok (.iaload, 1) := by decide +kernel
theorem dX2_changes_7 : decode cX2_changes 7 = .ok (.invokevirtual 99, 3) := by decide +kernel
theorem dX2_changes_10 : decode cX2_changes 10 = .ok (.ireturn, 1) := by decide +kernel
set_option maxRecDepth 20000 in
theorem ggX2_first_X2_next : GoodIn wsX2_first wsX2_next := goodIn_r _ [5, 6, 7, 8, 9, 10, 4, 11, 12, 13, 14, 15, 16, 17, 23, 24, 25, 26, 27, 28, 29, 30, 31, 32, 33, 34] (by decide +kernel) (by decide +kernel)
set_option maxRecDepth 20000 in
theorem gX2_first_X2_next : GoodIn wsX2_first (wsV RX2 72 RX2 yX2_next wsX2_next) := goodIn_app (goodIn_of _ (by decide +kernel)) ggX2_first_X2_next
set_option maxRecDepth 20000 in
theorem ggX2_first_X2_told : GoodIn wsX2_first wsX2_told := goodIn_r _ [21, 22, 23, 24, 25, 26, 27, 28, 29, 30, 31, 32, 33, 34] (by decide +kernel) (by decide +kernel)
set_option maxRecDepth 20000 in
theorem gX2_first_X2_told : GoodIn wsX2_first (wsV RX2 99 RX2 yX2_told wsX2_told) := goodIn_app (goodIn_of _ (by decide +kernel)) ggX2_first_X2_told
theorem dX2_first_0 : decode cX2_first 0 = .ok (.aload_n 0, 1) := by decide +kernel
theorem dX2_first_1 : decode cX2_first 1 = .ok (.aload_n 0, 1) := by decide +kernel
theorem dX2_first_2 : decode cX2_first 2 = .ok (.iconst 0, 1) := by decide +kernel
theorem dX2_first_3 : decode cX2_first 3 = .ok (.invokevirtual 72, 3) := by decide +kernel
theorem dX2_first_6 : decode cX2_first 6 = .ok (.invokevirtual 99, 3) := by decide +kernel
theorem dX2_first_9 : decode cX2_first 9 = .ok (.ireturn, 1) := by decide +kernel
set_option maxRecDepth 20000 in
theorem ggX2_place_X2_isDone : GoodIn wsX2_place wsX2_isDone := goodIn_r _ [5, 6, 18, 19, 20, 21, 22, 23, 24, 25, 26, 27, 28, 29] (by decide +kernel) (by decide +kernel)
set_option maxRecDepth 20000 in
theorem gX2_place_X2_isDone : GoodIn wsX2_place (wsV RX2 54 RX2 yX2_isDone wsX2_isDone) := goodIn_app (goodIn_of _ (by decide +kernel)) ggX2_place_X2_isDone
set_option maxRecDepth 20000 in
theorem ggX2_place_X2_ahead : GoodIn wsX2_place wsX2_ahead := goodIn_r _ [10, 11, 1, 2, 3, 4, 5, 6, 12, 13, 14, 15, 16, 17, 18, 19, 20, 21, 22, 23, 24, 25, 26, 27, 28, 29] (by decide +kernel) (by decide +kernel)
set_option maxRecDepth 20000 in
theorem gX2_place_X2_ahead : GoodIn wsX2_place (wsV RX2 66 RX2 yX2_ahead wsX2_ahead) := goodIn_app (goodIn_of _ (by decide +kernel)) ggX2_place_X2_ahead
theorem dX2_place_0 : decode cX2_place 0 = .ok (.aload_n 0, 1) := by decide +kernel
theorem dX2_place_1 : decode cX2_place 1 = .ok (.iload_n 1, 1) := by decide +kernel
theorem dX2_place_2 : decode cX2_place 2 = .ok (.invokevirtual 54, 3) := by decide +kernel
theorem dX2_place_5 : decode cX2_place 5 = .ok (.ifCond .eq 7, 3) := by decide +kernel
theorem dX2_place_8 : decode cX2_place 8 = .ok (.iconst (-1), 1) := by decide +kernel
theorem dX2_place_9 : decode cX2_place 9 = .ok (.goto 8, 3) := by decide +kernel
theorem dX2_place_12 : decode cX2_place 12 = .ok (.aload_n 0, 1) := by decide +kernel
theorem dX2_place_13 : decode cX2_place 13 = .ok (.iload_n 1, 1) := by decide +kernel
theorem dX2_place_14 : decode cX2_place 14 = .ok (.invokevirtual 66, 3) := by decide +kernel
theorem dX2_place_17 : decode cX2_place 17 = .ok (.ireturn, 1) := by decide +kernel
set_option maxRecDepth 20000 in
theorem ggX2_placeOf_X2_isSack : GoodIn wsX2_placeOf wsX2_isSack := goodIn_r _ [6, 7, 8, 9, 5, 10, 34, 35, 36, 37, 38, 39, 40, 41, 42, 43, 44, 45] (by decide +kernel) (by decide +kernel)
set_option maxRecDepth 20000 in
theorem gX2_placeOf_X2_isSack : GoodIn wsX2_placeOf (wsV RX2 92 RX2 yX2_isSack wsX2_isSack) := goodIn_app (goodIn_of _ (by decide +kernel)) ggX2_placeOf_X2_isSack
set_option maxRecDepth 20000 in
theorem ggX2_placeOf_X2_place : GoodIn wsX2_placeOf wsX2_place := goodIn_r _ [14, 15, 16, 17, 5, 18, 19, 20, 21, 22, 23, 7, 24, 25, 26, 27, 28, 29, 34, 35, 36, 37, 38, 39, 40, 41, 42, 43, 44, 45] (by decide +kernel) (by decide +kernel)
set_option maxRecDepth 20000 in
theorem gX2_placeOf_X2_place : GoodIn wsX2_placeOf (wsV RX2 112 RX2 yX2_place wsX2_place) := goodIn_app (goodIn_of _ (by decide +kernel)) ggX2_placeOf_X2_place
set_option maxRecDepth 20000 in
theorem ggX2_placeOf_X2_fail : GoodIn wsX2_placeOf wsX2_fail := goodIn_r _ [33, 1, 34, 35, 36, 37, 38, 39, 40, 41, 42, 43, 44, 45] (by decide +kernel) (by decide +kernel)
set_option maxRecDepth 20000 in
theorem gX2_placeOf_X2_fail : GoodIn wsX2_placeOf (wsV RX2 85 RX2 yX2_fail wsX2_fail) := goodIn_app (goodIn_of _ (by decide +kernel)) ggX2_placeOf_X2_fail
theorem dX2_placeOf_0 : decode cX2_placeOf 0 = .ok (.aload_n 0, 1) := by decide +kernel
theorem dX2_placeOf_1 : decode cX2_placeOf 1 = .ok (.iconst 0, 1) := by decide +kernel
theorem dX2_placeOf_2 : decode cX2_placeOf 2 = .ok (.putfield 31, 3) := by decide +kernel
theorem dX2_placeOf_5 : decode cX2_placeOf 5 = .ok (.aload_n 0, 1) := by decide +kernel
theorem dX2_placeOf_6 : decode cX2_placeOf 6 = .ok (.iload_n 1, 1) := by decide +kernel
theorem dX2_placeOf_7 : decode cX2_placeOf 7 = .ok (.invokevirtual 92, 3) := by decide +kernel
theorem dX2_placeOf_10 : decode cX2_placeOf 10 = .ok (.ifCond .eq 11, 3) := by decide +kernel
theorem dX2_placeOf_13 : decode cX2_placeOf 13 = .ok (.aload_n 0, 1) := by decide +kernel
theorem dX2_placeOf_14 : decode cX2_placeOf 14 = .ok (.iload_n 1, 1) := by decide +kernel
theorem dX2_placeOf_15 : decode cX2_placeOf 15 = .ok (.invokevirtual 112, 3) := by decide +kernel
theorem dX2_placeOf_18 : decode cX2_placeOf 18 = .ok (.goto 8, 3) := by decide +kernel
theorem dX2_placeOf_21 : decode cX2_placeOf 21 = .ok (.aload_n 0, 1) := by decide +kernel
theorem dX2_placeOf_22 : decode cX2_placeOf 22 = .ok (.iconst 1, 1) := by decide +kernel
theorem dX2_placeOf_23 : decode cX2_placeOf 23 = .ok (.invokevirtual 85, 3) := by decide +kernel
theorem dX2_placeOf_26 : decode cX2_placeOf 26 = .ok (.ireturn, 1) := by decide +kernel
theorem dX2_rest_0 : decode cX2_rest 0 = .ok (.iconst 0, 1) := by decide +kernel
theorem dX2_rest_1 : decode cX2_rest 1 = .ok (.istore_n 2, 1) := by decide +kernel
theorem dX2_rest_2 : decode cX2_rest 2 = .ok (.iconst 0, 1) := by decide +kernel
theorem dX2_rest_3 : decode cX2_rest 3 = .ok (.istore_n 3, 1) := by decide +kernel
theorem dX2_rest_4 : decode cX2_rest 4 = .ok (.iload_n 3, 1) := by decide +kernel
theorem dX2_rest_5 : decode cX2_rest 5 = .ok (.aload_n 0, 1) := by decide +kernel
theorem dX2_rest_6 : decode cX2_rest 6 = .ok (.getfield 42, 3) := by decide +kernel
theorem dX2_rest_9 : decode cX2_rest 9 = .ok (.if_icmp .ge 34, 3) := by decide +kernel
theorem dX2_rest_12 : decode cX2_rest 12 = .ok (.iload_n 2, 1) := by decide +kernel
theorem dX2_rest_13 : decode cX2_rest 13 = .ok (.aload_n 0, 1) := by decide +kernel
theorem dX2_rest_14 : decode cX2_rest 14 = .ok (.getfield 16, 3) := by decide +kernel
theorem dX2_rest_17 : decode cX2_rest 17 = .ok (.iload_n 3, 1) := by decide +kernel
theorem dX2_rest_18 : decode cX2_rest 18 = .ok (.iaload, 1) := by decide +kernel
theorem dX2_rest_19 : decode cX2_rest 19 = .ok (.iload_n 1, 1) := by decide +kernel
theorem dX2_rest_20 : decode cX2_rest 20 = .ok (.if_icmp .ne 14, 3) := by decide +kernel
theorem dX2_rest_23 : decode cX2_rest 23 = .ok (.aload_n 0, 1) := by decide +kernel
theorem dX2_rest_24 : decode cX2_rest 24 = .ok (.getfield 22, 3) := by decide +kernel
theorem dX2_rest_27 : decode cX2_rest 27 = .ok (.iconst 3, 1) := by decide +kernel
theorem dX2_rest_28 : decode cX2_rest 28 = .ok (.iload_n 3, 1) := by decide +kernel
theorem dX2_rest_29 : decode cX2_rest 29 = .ok (.iadd, 1) := by decide +kernel
theorem dX2_rest_30 : decode cX2_rest 30 = .ok (.iaload, 1) := by decide +kernel
theorem dX2_rest_31 : decode cX2_rest 31 = .ok (.goto 4, 3) := by decide +kernel
theorem dX2_rest_34 : decode cX2_rest 34 = .ok (.iconst 0, 1) := by decide +kernel
theorem dX2_rest_35 : decode cX2_rest 35 = .ok (.iadd, 1) := by decide +kernel
theorem dX2_rest_36 : decode cX2_rest 36 = .ok (.istore_n 2, 1) := by decide +kernel
theorem dX2_rest_37 : decode cX2_rest 37 = .ok (.iinc 3 1, 3) := by decide +kernel
theorem dX2_rest_40 : decode cX2_rest 40 = .ok (.goto (-36), 3) := by decide +kernel
theorem dX2_rest_43 : decode cX2_rest 43 = .ok (.iload_n 2, 1) := by decide +kernel
theorem dX2_rest_44 : decode cX2_rest 44 = .ok (.ireturn, 1) := by decide +kernel
set_option maxRecDepth 20000 in
theorem ggX2_leftFor_X2_isIn : GoodIn wsX2_leftFor wsX2_isIn := goodIn_r _ [5] (by decide +kernel) (by decide +kernel)
set_option maxRecDepth 20000 in
theorem gX2_leftFor_X2_isIn : GoodIn wsX2_leftFor (va_wsS RX2 38 yX2_isIn wsX2_isIn) := goodIn_app (goodIn_of _ (by decide +kernel)) ggX2_leftFor_X2_isIn
set_option maxRecDepth 20000 in
theorem ggX2_leftFor_X2_rest : GoodIn wsX2_leftFor wsX2_rest := goodIn_r _ [9, 10, 11, 12, 17, 18, 19, 20, 21, 22, 23, 24, 25, 26, 27, 28] (by decide +kernel) (by decide +kernel)
set_option maxRecDepth 20000 in
theorem gX2_leftFor_X2_rest : GoodIn wsX2_leftFor (wsV RX2 115 RX2 yX2_rest wsX2_rest) := goodIn_app (goodIn_of _ (by decide +kernel)) ggX2_leftFor_X2_rest
set_option maxRecDepth 20000 in
theorem ggX2_leftFor_X2_fail : GoodIn wsX2_leftFor wsX2_fail := goodIn_r _ [16, 1, 17, 18, 19, 20, 21, 22, 23, 24, 25, 26, 27, 28] (by decide +kernel) (by decide +kernel)
set_option maxRecDepth 20000 in
theorem gX2_leftFor_X2_fail : GoodIn wsX2_leftFor (wsV RX2 85 RX2 yX2_fail wsX2_fail) := goodIn_app (goodIn_of _ (by decide +kernel)) ggX2_leftFor_X2_fail
theorem dX2_leftFor_0 : decode cX2_leftFor 0 = .ok (.aload_n 0, 1) := by decide +kernel
theorem dX2_leftFor_1 : decode cX2_leftFor 1 = .ok (.iconst 0, 1) := by decide +kernel
theorem dX2_leftFor_2 : decode cX2_leftFor 2 = .ok (.putfield 31, 3) := by decide +kernel
theorem dX2_leftFor_5 : decode cX2_leftFor 5 = .ok (.iload_n 1, 1) := by decide +kernel
theorem dX2_leftFor_6 : decode cX2_leftFor 6 = .ok (.iconst 0, 1) := by decide +kernel
theorem dX2_leftFor_7 : decode cX2_leftFor 7 = .ok (.bipush 7, 2) := by decide +kernel
theorem dX2_leftFor_9 : decode cX2_leftFor 9 = .ok (.invokestatic 38, 3) := by decide +kernel
theorem dX2_leftFor_12 : decode cX2_leftFor 12 = .ok (.ifCond .eq 11, 3) := by decide +kernel
theorem dX2_leftFor_15 : decode cX2_leftFor 15 = .ok (.aload_n 0, 1) := by decide +kernel
theorem dX2_leftFor_16 : decode cX2_leftFor 16 = .ok (.iload_n 1, 1) := by decide +kernel
theorem dX2_leftFor_17 : decode cX2_leftFor 17 = .ok (.invokevirtual 115, 3) := by decide +kernel
theorem dX2_leftFor_20 : decode cX2_leftFor 20 = .ok (.goto 8, 3) := by decide +kernel
theorem dX2_leftFor_23 : decode cX2_leftFor 23 = .ok (.aload_n 0, 1) := by decide +kernel
theorem dX2_leftFor_24 : decode cX2_leftFor 24 = .ok (.iconst 1, 1) := by decide +kernel
theorem dX2_leftFor_25 : decode cX2_leftFor 25 = .ok (.invokevirtual 85, 3) := by decide +kernel
theorem dX2_leftFor_28 : decode cX2_leftFor 28 = .ok (.ireturn, 1) := by decide +kernel
set_option maxRecDepth 20000 in
theorem ggX2_lost_X2_isDone : GoodIn wsX2_lost wsX2_isDone := goodIn_r _ [12, 2, 13, 14, 15, 16, 17, 18, 19, 20, 21, 22, 23, 24] (by decide +kernel) (by decide +kernel)
set_option maxRecDepth 20000 in
theorem gX2_lost_X2_isDone : GoodIn wsX2_lost (wsV RX2 54 RX2 yX2_isDone wsX2_isDone) := goodIn_app (goodIn_of _ (by decide +kernel)) ggX2_lost_X2_isDone
theorem dX2_lost_0 : decode cX2_lost 0 = .ok (.iconst 0, 1) := by decide +kernel
theorem dX2_lost_1 : decode cX2_lost 1 = .ok (.istore_n 2, 1) := by decide +kernel
theorem dX2_lost_2 : decode cX2_lost 2 = .ok (.iconst 0, 1) := by decide +kernel
theorem dX2_lost_3 : decode cX2_lost 3 = .ok (.istore_n 3, 1) := by decide +kernel
theorem dX2_lost_4 : decode cX2_lost 4 = .ok (.iload_n 3, 1) := by decide +kernel
theorem dX2_lost_5 : decode cX2_lost 5 = .ok (.aload_n 0, 1) := by decide +kernel
theorem dX2_lost_6 : decode cX2_lost 6 = .ok (.getfield 42, 3) := by decide +kernel
theorem dX2_lost_9 : decode cX2_lost 9 = .ok (.if_icmp .ge 44, 3) := by decide +kernel
theorem dX2_lost_12 : decode cX2_lost 12 = .ok (.iload_n 2, 1) := by decide +kernel
theorem dX2_lost_13 : decode cX2_lost 13 = .ok (.aload_n 0, 1) := by decide +kernel
theorem dX2_lost_14 : decode cX2_lost 14 = .ok (.iload_n 3, 1) := by decide +kernel
theorem dX2_lost_15 : decode cX2_lost 15 = .ok (.invokevirtual 54, 3) := by decide +kernel
theorem dX2_lost_18 : decode cX2_lost 18 = .ok (.ifCond .eq 26, 3) := by decide +kernel
theorem dX2_lost_21 : decode cX2_lost 21 = .ok (.iconst 0, 1) := by decide +kernel
theorem dX2_lost_22 : decode cX2_lost 22 = .ok (.aload_n 0, 1) := by decide +kernel
theorem dX2_lost_23 : decode cX2_lost 23 = .ok (.getfield 22, 3) := by decide +kernel
theorem dX2_lost_26 : decode cX2_lost 26 = .ok (.bipush 19, 2) := by decide +kernel
theorem dX2_lost_28 : decode cX2_lost 28 = .ok (.iload_n 3, 1) := by decide +kernel
theorem dX2_lost_29 : decode cX2_lost 29 = .ok (.iadd, 1) := by decide +kernel
theorem dX2_lost_30 : decode cX2_lost 30 = .ok (.iaload, 1) := by decide +kernel
theorem dX2_lost_31 : decode cX2_lost 31 = .ok (.aload_n 0, 1) := by decide +kernel
theorem dX2_lost_32 : decode cX2_lost 32 = .ok (.getfield 19, 3) := by decide +kernel
theorem dX2_lost_35 : decode cX2_lost 35 = .ok (.iload_n 3, 1) := by decide +kernel
theorem dX2_lost_36 : decode cX2_lost 36 = .ok (.iaload, 1) := by decide +kernel
theorem dX2_lost_37 : decode cX2_lost 37 = .ok (.isub, 1) := by decide +kernel
theorem dX2_lost_38 : decode cX2_lost 38 = .ok (.invokestatic 118, 3) := by decide +kernel
theorem dX2_lost_41 : decode cX2_lost 41 = .ok (.goto 4, 3) := by decide +kernel
theorem dX2_lost_44 : decode cX2_lost 44 = .ok (.iload_n 1, 1) := by decide +kernel
theorem dX2_lost_45 : decode cX2_lost 45 = .ok (.iadd, 1) := by decide +kernel
theorem dX2_lost_46 : decode cX2_lost 46 = .ok (.istore_n 2, 1) := by decide +kernel
theorem dX2_lost_47 : decode cX2_lost 47 = .ok (.iinc 3 1, 3) := by decide +kernel
theorem dX2_lost_50 : decode cX2_lost 50 = .ok (.goto (-46), 3) := by decide +kernel
theorem dX2_lost_53 : decode cX2_lost 53 = .ok (.iload_n 2, 1) := by decide +kernel
theorem dX2_lost_54 : decode cX2_lost 54 = .ok (.ireturn, 1) := by decide +kernel
set_option maxRecDepth 20000 in
theorem ggX2_late_X2_lost : GoodIn wsX2_late wsX2_lost := goodIn_r _ [5, 6, 7, 8, 9, 10, 11, 12, 13, 14, 15, 4, 16, 22, 23, 24, 25, 26, 27, 28, 29, 30, 31, 32, 33] (by decide +kernel) (by decide +kernel)
set_option maxRecDepth 20000 in
theorem gX2_late_X2_lost : GoodIn wsX2_late (wsV RX2 121 RX2 yX2_lost wsX2_lost) := goodIn_app (goodIn_of _ (by decide +kernel)) ggX2_late_X2_lost
set_option maxRecDepth 20000 in
theorem ggX2_late_X2_told : GoodIn wsX2_late wsX2_told := goodIn_r _ [20, 21, 22, 23, 24, 25, 26, 27, 28, 29, 30, 31, 32, 33] (by decide +kernel) (by decide +kernel)
set_option maxRecDepth 20000 in
theorem gX2_late_X2_told : GoodIn wsX2_late (wsV RX2 99 RX2 yX2_told wsX2_told) := goodIn_app (goodIn_of _ (by decide +kernel)) ggX2_late_X2_told
theorem dX2_late_0 : decode cX2_late 0 = .ok (.aload_n 0, 1) := by decide +kernel
theorem dX2_late_1 : decode cX2_late 1 = .ok (.aload_n 0, 1) := by decide +kernel
theorem dX2_late_2 : decode cX2_late 2 = .ok (.iconst 0, 1) := by decide +kernel
theorem dX2_late_3 : decode cX2_late 3 = .ok (.invokevirtual 121, 3) := by decide +kernel
theorem dX2_late_6 : decode cX2_late 6 = .ok (.invokevirtual 99, 3) := by decide +kernel
theorem dX2_late_9 : decode cX2_late 9 = .ok (.ireturn, 1) := by decide +kernel
set_option maxRecDepth 20000 in
theorem ggX2_groundThen_X2_keep : GoodIn wsX2_groundThen wsX2_keep := goodIn_r _ [6, 1, 7, 8, 9, 10, 11, 56, 57, 58, 59, 60, 61, 62, 63, 64, 65, 66, 67] (by decide +kernel) (by decide +kernel)
set_option maxRecDepth 20000 in
theorem gX2_groundThen_X2_keep : GoodIn wsX2_groundThen (wsV RX2 124 RX2 yX2_keep wsX2_keep) := goodIn_app (goodIn_of _ (by decide +kernel)) ggX2_groundThen_X2_keep
set_option maxRecDepth 20000 in
theorem ggX2_groundThen_X2_hoursOn : GoodIn wsX2_groundThen wsX2_hoursOn := goodIn_r _ [15, 16, 17, 18, 5, 19, 20, 21, 1, 22, 23, 24, 25, 26, 27, 28, 29, 30, 31, 32, 33, 34, 35, 36, 37, 38, 39, 40, 41, 42, 43, 44, 45, 46, 47, 48, 49, 50, 51, 56, 57, 58, 59, 60, 61, 62, 63, 64, 65, 66, 67] (by decide +kernel) (by decide +kernel)
set_option maxRecDepth 20000 in
theorem gX2_groundThen_X2_hoursOn : GoodIn wsX2_groundThen (wsV RX2 95 RX2 yX2_hoursOn wsX2_hoursOn) := goodIn_app (goodIn_of _ (by decide +kernel)) ggX2_groundThen_X2_hoursOn
set_option maxRecDepth 20000 in
theorem ggX2_groundThen_X2_bringBack : GoodIn wsX2_groundThen wsX2_bringBack := goodIn_r _ [55, 7, 1, 8, 9, 10, 11, 56, 57, 58, 59, 60, 61, 62, 63, 64, 65, 66, 67] (by decide +kernel) (by decide +kernel)
set_option maxRecDepth 20000 in
theorem gX2_groundThen_X2_bringBack : GoodIn wsX2_groundThen (wsV RX2 127 RX2 yX2_bringBack wsX2_bringBack) := goodIn_app (goodIn_of _ (by decide +kernel)) ggX2_groundThen_X2_bringBack
theorem dX2_groundThen_0 : decode cX2_groundThen 0 = .ok (.aload_n 0, 1) := by decide +kernel
theorem dX2_groundThen_1 : decode cX2_groundThen 1 = .ok (.invokevirtual 124, 3) := by decide +kernel
theorem dX2_groundThen_4 : decode cX2_groundThen 4 = .ok (.aload_n 0, 1) := by decide +kernel
theorem dX2_groundThen_5 : decode cX2_groundThen 5 = .ok (.sipush 200, 3) := by decide +kernel
theorem dX2_groundThen_8 : decode cX2_groundThen 8 = .ok (.invokevirtual 95, 3) := by decide +kernel
theorem dX2_groundThen_11 : decode cX2_groundThen 11 = .ok (.aload_n 0, 1) := by decide +kernel
theorem dX2_groundThen_12 : decode cX2_groundThen 12 = .ok (.getfield 22, 3) := by decide +kernel
theorem dX2_groundThen_15 : decode cX2_groundThen 15 = .ok (.bipush 19, 2) := by decide +kernel
theorem dX2_groundThen_17 : decode cX2_groundThen 17 = .ok (.iload_n 1, 1) := by decide +kernel
theorem dX2_groundThen_18 : decode cX2_groundThen 18 = .ok (.iadd, 1) := by decide +kernel
theorem dX2_groundThen_19 : decode cX2_groundThen 19 = .ok (.iaload, 1) := by decide +kernel
theorem dX2_groundThen_20 : decode cX2_groundThen 20 = .ok (.istore_n 2, 1) := by decide +kernel
theorem dX2_groundThen_21 : decode cX2_groundThen 21 = .ok (.aload_n 0, 1) := by decide +kernel
theorem dX2_groundThen_22 : decode cX2_groundThen 22 = .ok (.invokevirtual 127, 3) := by decide +kernel
theorem dX2_groundThen_25 : decode cX2_groundThen 25 = .ok (.iload_n 2, 1) := by decide +kernel
theorem dX2_groundThen_26 : decode cX2_groundThen 26 = .ok (.ireturn, 1) := by decide +kernel
set_option maxRecDepth 20000 in
theorem ggX2_willBeGroundAt_X2_isSack : GoodIn wsX2_willBeGroundAt wsX2_isSack := goodIn_r _ [6, 7, 8, 9, 5, 10, 72, 73, 74, 75, 76, 77, 78, 79, 80, 81, 82, 83] (by decide +kernel) (by decide +kernel)
set_option maxRecDepth 20000 in
theorem gX2_willBeGroundAt_X2_isSack : GoodIn wsX2_willBeGroundAt (wsV RX2 92 RX2 yX2_isSack wsX2_isSack) := goodIn_app (goodIn_of _ (by decide +kernel)) ggX2_willBeGroundAt_X2_isSack
set_option maxRecDepth 20000 in
theorem ggX2_willBeGroundAt_X2_groundThen : GoodIn wsX2_willBeGroundAt wsX2_groundThen := goodIn_r _ [14, 15, 16, 17, 18, 5, 19, 20, 21, 22, 23, 24, 25, 26, 27, 28, 29, 30, 31, 32, 7, 33, 34, 35, 36, 37, 38, 39, 40, 41, 42, 43, 44, 45, 46, 47, 48, 49, 50, 51, 52, 53, 54, 55, 56, 57, 58, 59, 60, 61, 62, 63, 64, 65, 66, 67, 72, 73, 74, 75, 76, 77, 78, 79, 80, 81, 82, 83] (by decide +kernel) (by decide +kernel)
set_option maxRecDepth 20000 in
theorem gX2_willBeGroundAt_X2_groundThen : GoodIn wsX2_willBeGroundAt (wsV RX2 130 RX2 yX2_groundThen wsX2_groundThen) := goodIn_app (goodIn_of _ (by decide +kernel)) ggX2_willBeGroundAt_X2_groundThen
set_option maxRecDepth 20000 in
theorem ggX2_willBeGroundAt_X2_fail : GoodIn wsX2_willBeGroundAt wsX2_fail := goodIn_r _ [71, 1, 72, 73, 74, 75, 76, 77, 78, 79, 80, 81, 82, 83] (by decide +kernel) (by decide +kernel)
set_option maxRecDepth 20000 in
theorem gX2_willBeGroundAt_X2_fail : GoodIn wsX2_willBeGroundAt (wsV RX2 85 RX2 yX2_fail wsX2_fail) := goodIn_app (goodIn_of _ (by decide +kernel)) ggX2_willBeGroundAt_X2_fail
theorem dX2_willBeGroundAt_0 : decode cX2_willBeGroundAt 0 = .ok (.aload_n 0, 1) := by decide +kernel
theorem dX2_willBeGroundAt_1 : decode cX2_willBeGroundAt 1 = .ok (.iconst 0, 1) := by decide +kernel
theorem dX2_willBeGroundAt_2 : decode cX2_willBeGroundAt 2 = .ok (.putfield 31, 3) := by decide +kernel
theorem dX2_willBeGroundAt_5 : decode cX2_willBeGroundAt 5 = .ok (.aload_n 0, 1) := by decide +kernel
theorem dX2_willBeGroundAt_6 : decode cX2_willBeGroundAt 6 = .ok (.iload_n 1, 1) := by decide +kernel
theorem dX2_willBeGroundAt_7 : decode cX2_willBeGroundAt 7 = .ok (.invokevirtual 92, 3) := by decide +kernel
theorem dX2_willBeGroundAt_10 : decode cX2_willBeGroundAt 10 = .ok (.ifCond .eq 11, 3) := by decide +kernel
theorem dX2_willBeGroundAt_13 : decode cX2_willBeGroundAt 13 = .ok (.aload_n 0, 1) := by decide +kernel
theorem dX2_willBeGroundAt_14 : decode cX2_willBeGroundAt 14 = .ok (.iload_n 1, 1) := by decide +kernel
theorem dX2_willBeGroundAt_15 : decode cX2_willBeGroundAt 15 = .ok (.invokevirtual 130, 3) := by decide +kernel
theorem dX2_willBeGroundAt_18 : decode cX2_willBeGroundAt 18 = .ok (.goto 8, 3) := by decide +kernel
theorem dX2_willBeGroundAt_21 : decode cX2_willBeGroundAt 21 = .ok (.aload_n 0, 1) := by decide +kernel
theorem dX2_willBeGroundAt_22 : decode cX2_willBeGroundAt 22 = .ok (.iconst 1, 1) := by decide +kernel
theorem dX2_willBeGroundAt_23 : decode cX2_willBeGroundAt 23 = .ok (.invokevirtual 85, 3) := by decide +kernel
theorem dX2_willBeGroundAt_26 : decode cX2_willBeGroundAt 26 = .ok (.ireturn, 1) := by decide +kernel
set_option maxRecDepth 20000 in
theorem ggX2_spareOf_X2_isSack : GoodIn wsX2_spareOf wsX2_isSack := goodIn_r _ [7, 8, 9, 10, 6, 11, 72, 73, 74, 75, 76, 77, 78, 79, 80, 81, 82, 83] (by decide +kernel) (by decide +kernel)
set_option maxRecDepth 20000 in
theorem gX2_spareOf_X2_isSack : GoodIn wsX2_spareOf (wsV RX2 92 RX2 yX2_isSack wsX2_isSack) := goodIn_app (goodIn_of _ (by decide +kernel)) ggX2_spareOf_X2_isSack
set_option maxRecDepth 20000 in
theorem ggX2_spareOf_X2_fail : GoodIn wsX2_spareOf wsX2_fail := goodIn_r _ [15, 1, 72, 73, 74, 75, 76, 77, 78, 79, 80, 81, 82, 83] (by decide +kernel) (by decide +kernel)
set_option maxRecDepth 20000 in
theorem gX2_spareOf_X2_fail : GoodIn wsX2_spareOf (wsV RX2 85 RX2 yX2_fail wsX2_fail) := goodIn_app (goodIn_of _ (by decide +kernel)) ggX2_spareOf_X2_fail
set_option maxRecDepth 20000 in
theorem ggX2_spareOf_X2_groundThen : GoodIn wsX2_spareOf wsX2_groundThen := goodIn_r _ [19, 20, 21, 22, 23, 6, 24, 25, 26, 27, 28, 29, 30, 31, 32, 33, 34, 35, 36, 37, 8, 38, 39, 40, 41, 42, 43, 44, 45, 46, 47, 48, 49, 50, 51, 52, 53, 54, 55, 56, 57, 58, 59, 2, 60, 61, 62, 63, 64, 65, 66, 67, 68, 69, 70, 71, 72, 73, 74, 75, 76, 77, 78, 79, 80, 81, 82, 83] (by decide +kernel) (by decide +kernel)
set_option maxRecDepth 20000 in
theorem gX2_spareOf_X2_groundThen : GoodIn wsX2_spareOf (wsV RX2 130 RX2 yX2_groundThen wsX2_groundThen) := goodIn_app (goodIn_of _ (by decide +kernel)) ggX2_spareOf_X2_groundThen
theorem dX2_spareOf_0 : decode cX2_spareOf 0 = .ok (.aload_n 0, 1) := by decide +kernel
theorem dX2_spareOf_1 : decode cX2_spareOf 1 = .ok (.iconst 0, 1) := by decide +kernel
theorem dX2_spareOf_2 : decode cX2_spareOf 2 = .ok (.putfield 31, 3) := by decide +kernel
theorem dX2_spareOf_5 : decode cX2_spareOf 5 = .ok (.aload_n 0, 1) := by decide +kernel
theorem dX2_spareOf_6 : decode cX2_spareOf 6 = .ok (.iload_n 1, 1) := by decide +kernel
theorem dX2_spareOf_7 : decode cX2_spareOf 7 = .ok (.invokevirtual 92, 3) := by decide +kernel
theorem dX2_spareOf_10 : decode cX2_spareOf 10 = .ok (.ifCond .ne 9, 3) := by decide +kernel
theorem dX2_spareOf_13 : decode cX2_spareOf 13 = .ok (.aload_n 0, 1) := by decide +kernel
theorem dX2_spareOf_14 : decode cX2_spareOf 14 = .ok (.iconst 1, 1) := by decide +kernel
theorem dX2_spareOf_15 : decode cX2_spareOf 15 = .ok (.invokevirtual 85, 3) := by decide +kernel
theorem dX2_spareOf_18 : decode cX2_spareOf 18 = .ok (.ireturn, 1) := by decide +kernel
theorem dX2_spareOf_19 : decode cX2_spareOf 19 = .ok (.aload_n 0, 1) := by decide +kernel
theorem dX2_spareOf_20 : decode cX2_spareOf 20 = .ok (.iload_n 1, 1) := by decide +kernel
theorem dX2_spareOf_21 : decode cX2_spareOf 21 = .ok (.invokevirtual 130, 3) := by decide +kernel
theorem dX2_spareOf_24 : decode cX2_spareOf 24 = .ok (.istore_n 2, 1) := by decide +kernel
theorem dX2_spareOf_25 : decode cX2_spareOf 25 = .ok (.iload_n 2, 1) := by decide +kernel
theorem dX2_spareOf_26 : decode cX2_spareOf 26 = .ok (.iconst (-1), 1) := by decide +kernel
theorem dX2_spareOf_27 : decode cX2_spareOf 27 = .ok (.if_icmp .ne 9, 3) := by decide +kernel
theorem dX2_spareOf_30 : decode cX2_spareOf 30 = .ok (.sipush (-999), 3) := by decide +kernel
theorem dX2_spareOf_33 : decode cX2_spareOf 33 = .ok (.goto 11, 3) := by decide +kernel
theorem dX2_spareOf_36 : decode cX2_spareOf 36 = .ok (.aload_n 0, 1) := by decide +kernel
theorem dX2_spareOf_37 : decode cX2_spareOf 37 = .ok (.getfield 19, 3) := by decide +kernel
theorem dX2_spareOf_40 : decode cX2_spareOf 40 = .ok (.iload_n 1, 1) := by decide +kernel
theorem dX2_spareOf_41 : decode cX2_spareOf 41 = .ok (.iaload, 1) := by decide +kernel
theorem dX2_spareOf_42 : decode cX2_spareOf 42 = .ok (.iload_n 2, 1) := by decide +kernel
theorem dX2_spareOf_43 : decode cX2_spareOf 43 = .ok (.isub, 1) := by decide +kernel
theorem dX2_spareOf_44 : decode cX2_spareOf 44 = .ok (.ireturn, 1) := by decide +kernel
set_option maxRecDepth 20000 in
theorem ggX2_lostBy_X2_keep : GoodIn wsX2_lostBy wsX2_keep := goodIn_r _ [7, 8, 9, 10, 11, 12, 13, 63, 64, 65, 66, 67, 68, 69, 70, 71, 72, 73, 74] (by decide +kernel) (by decide +kernel)
set_option maxRecDepth 20000 in
theorem gX2_lostBy_X2_keep : GoodIn wsX2_lostBy (wsV RX2 124 RX2 yX2_keep wsX2_keep) := goodIn_app (goodIn_of _ (by decide +kernel)) ggX2_lostBy_X2_keep
set_option maxRecDepth 20000 in
theorem ggX2_lostBy_X2_hoursOn : GoodIn wsX2_lostBy wsX2_hoursOn := goodIn_r _ [17, 18, 19, 20, 6, 21, 22, 2, 8, 23, 24, 25, 26, 27, 28, 29, 30, 31, 32, 33, 34, 35, 36, 37, 38, 39, 40, 41, 42, 1, 43, 44, 45, 46, 47, 48, 49, 50, 51, 63, 64, 65, 66, 67, 68, 69, 70, 71, 72, 73, 74] (by decide +kernel) (by decide +kernel)
set_option maxRecDepth 20000 in
theorem gX2_lostBy_X2_hoursOn : GoodIn wsX2_lostBy (wsV RX2 95 RX2 yX2_hoursOn wsX2_hoursOn) := goodIn_app (goodIn_of _ (by decide +kernel)) ggX2_lostBy_X2_hoursOn
set_option maxRecDepth 20000 in
theorem ggX2_lostBy_X2_lost : GoodIn wsX2_lostBy wsX2_lost := goodIn_r _ [55, 22, 8, 43, 56, 57, 29, 58, 35, 36, 37, 6, 38, 63, 64, 65, 66, 67, 68, 69, 70, 71, 72, 73, 74] (by decide +kernel) (by decide +kernel)
set_option maxRecDepth 20000 in
theorem gX2_lostBy_X2_lost : GoodIn wsX2_lostBy (wsV RX2 121 RX2 yX2_lost wsX2_lost) := goodIn_app (goodIn_of _ (by decide +kernel)) ggX2_lostBy_X2_lost
set_option maxRecDepth 20000 in
theorem ggX2_lostBy_X2_bringBack : GoodIn wsX2_lostBy wsX2_bringBack := goodIn_r _ [62, 9, 8, 10, 11, 12, 13, 63, 64, 65, 66, 67, 68, 69, 70, 71, 72, 73, 74] (by decide +kernel) (by decide +kernel)
set_option maxRecDepth 20000 in
theorem gX2_lostBy_X2_bringBack : GoodIn wsX2_lostBy (wsV RX2 127 RX2 yX2_bringBack wsX2_bringBack) := goodIn_app (goodIn_of _ (by decide +kernel)) ggX2_lostBy_X2_bringBack
theorem dX2_lostBy_0 : decode cX2_lostBy 0 = .ok (.aload_n 0, 1) := by decide +kernel
theorem dX2_lostBy_1 : decode cX2_lostBy 1 = .ok (.getfield 51, 3) := by decide +kernel
theorem dX2_lostBy_4 : decode cX2_lostBy 4 = .ok (.istore_n 3, 1) := by decide +kernel
theorem dX2_lostBy_5 : decode cX2_lostBy 5 = .ok (.aload_n 0, 1) := by decide +kernel
theorem dX2_lostBy_6 : decode cX2_lostBy 6 = .ok (.getfield 62, 3) := by decide +kernel
theorem dX2_lostBy_9 : decode cX2_lostBy 9 = .ok (.istore 4, 2) := by decide +kernel
theorem dX2_lostBy_11 : decode cX2_lostBy 11 = .ok (.aload_n 0, 1) := by decide +kernel
theorem dX2_lostBy_12 : decode cX2_lostBy 12 = .ok (.iload_n 1, 1) := by decide +kernel
theorem dX2_lostBy_13 : decode cX2_lostBy 13 = .ok (.putfield 51, 3) := by decide +kernel
theorem dX2_lostBy_16 : decode cX2_lostBy 16 = .ok (.aload_n 0, 1) := by decide +kernel
theorem dX2_lostBy_17 : decode cX2_lostBy 17 = .ok (.iload_n 2, 1) := by decide +kernel
theorem dX2_lostBy_18 : decode cX2_lostBy 18 = .ok (.putfield 62, 3) := by decide +kernel
theorem dX2_lostBy_21 : decode cX2_lostBy 21 = .ok (.aload_n 0, 1) := by decide +kernel
theorem dX2_lostBy_22 : decode cX2_lostBy 22 = .ok (.invokevirtual 124, 3) := by decide +kernel
theorem dX2_lostBy_25 : decode cX2_lostBy 25 = .ok (.aload_n 0, 1) := by decide +kernel
theorem dX2_lostBy_26 : decode cX2_lostBy 26 = .ok (.sipush 200, 3) := by decide +kernel
theorem dX2_lostBy_29 : decode cX2_lostBy 29 = .ok (.invokevirtual 95, 3) := by decide +kernel
theorem dX2_lostBy_32 : decode cX2_lostBy 32 = .ok (.aload_n 0, 1) := by decide +kernel
theorem dX2_lostBy_33 : decode cX2_lostBy 33 = .ok (.sipush 200, 3) := by decide +kernel
theorem dX2_lostBy_36 : decode cX2_lostBy 36 = .ok (.invokevirtual 121, 3) := by decide +kernel
theorem dX2_lostBy_39 : decode cX2_lostBy 39 = .ok (.istore 5, 2) := by decide +kernel
theorem dX2_lostBy_41 : decode cX2_lostBy 41 = .ok (.aload_n 0, 1) := by decide +kernel
theorem dX2_lostBy_42 : decode cX2_lostBy 42 = .ok (.invokevirtual 127, 3) := by decide +kernel
theorem dX2_lostBy_45 : decode cX2_lostBy 45 = .ok (.aload_n 0, 1) := by decide +kernel
theorem dX2_lostBy_46 : decode cX2_lostBy 46 = .ok (.iload_n 3, 1) := by decide +kernel
theorem dX2_lostBy_47 : decode cX2_lostBy 47 = .ok (.putfield 51, 3) := by decide +kernel
theorem dX2_lostBy_50 : decode cX2_lostBy 50 = .ok (.aload_n 0, 1) := by decide +kernel
theorem dX2_lostBy_51 : decode cX2_lostBy 51 = .ok (.iload 4, 2) := by decide +kernel
theorem dX2_lostBy_53 : decode cX2_lostBy 53 = .ok (.putfield 62, 3) := by decide +kernel
theorem dX2_lostBy_56 : decode cX2_lostBy 56 = .ok (.iload 5, 2) := by decide +kernel
theorem dX2_lostBy_58 : decode cX2_lostBy 58 = .ok (.ireturn, 1) := by decide +kernel
set_option maxRecDepth 20000 in
theorem ggX2_lateWith_X2_isIn : GoodIn wsX2_lateWith wsX2_isIn := goodIn_r _ [5] (by decide +kernel) (by decide +kernel)
set_option maxRecDepth 20000 in
theorem gX2_lateWith_X2_isIn : GoodIn wsX2_lateWith (va_wsS RX2 38 yX2_isIn wsX2_isIn) := goodIn_app (goodIn_of _ (by decide +kernel)) ggX2_lateWith_X2_isIn
set_option maxRecDepth 20000 in
theorem ggX2_lateWith_X2_lostBy : GoodIn wsX2_lateWith wsX2_lostBy := goodIn_r _ [9, 10, 11, 12, 13, 14, 4, 15, 16, 17, 18, 19, 20, 21, 22, 23, 24, 25, 26, 27, 28, 29, 30, 31, 32, 33, 34, 35, 36, 37, 38, 39, 40, 41, 42, 43, 44, 45, 46, 47, 48, 49, 50, 51, 52, 53, 54, 55, 56, 57, 58, 59, 60, 61, 62, 63, 64, 65, 66, 67, 68, 69, 70, 75, 76, 77, 78, 79, 80, 81, 82, 83, 84, 85, 86] (by decide +kernel) (by decide +kernel)
set_option maxRecDepth 20000 in
theorem gX2_lateWith_X2_lostBy : GoodIn wsX2_lateWith (wsV RX2 133 RX2 yX2_lostBy wsX2_lostBy) := goodIn_app (goodIn_of _ (by decide +kernel)) ggX2_lateWith_X2_lostBy
set_option maxRecDepth 20000 in
theorem ggX2_lateWith_X2_fail : GoodIn wsX2_lateWith wsX2_fail := goodIn_r _ [74, 1, 75, 76, 77, 78, 79, 80, 81, 82, 83, 84, 85, 86] (by decide +kernel) (by decide +kernel)
set_option maxRecDepth 20000 in
theorem gX2_lateWith_X2_fail : GoodIn wsX2_lateWith (wsV RX2 85 RX2 yX2_fail wsX2_fail) := goodIn_app (goodIn_of _ (by decide +kernel)) ggX2_lateWith_X2_fail
theorem dX2_lateWith_0 : decode cX2_lateWith 0 = .ok (.aload_n 0, 1) := by decide +kernel
theorem dX2_lateWith_1 : decode cX2_lateWith 1 = .ok (.iconst 0, 1) := by decide +kernel
theorem dX2_lateWith_2 : decode cX2_lateWith 2 = .ok (.putfield 31, 3) := by decide +kernel
theorem dX2_lateWith_5 : decode cX2_lateWith 5 = .ok (.iload_n 1, 1) := by decide +kernel
theorem dX2_lateWith_6 : decode cX2_lateWith 6 = .ok (.iconst 0, 1) := by decide +kernel
theorem dX2_lateWith_7 : decode cX2_lateWith 7 = .ok (.iconst 2, 1) := by decide +kernel
theorem dX2_lateWith_8 : decode cX2_lateWith 8 = .ok (.invokestatic 38, 3) := by decide +kernel
theorem dX2_lateWith_11 : decode cX2_lateWith 11 = .ok (.ifCond .eq 12, 3) := by decide +kernel
theorem dX2_lateWith_14 : decode cX2_lateWith 14 = .ok (.aload_n 0, 1) := by decide +kernel
theorem dX2_lateWith_15 : decode cX2_lateWith 15 = .ok (.iload_n 1, 1) := by decide +kernel
theorem dX2_lateWith_16 : decode cX2_lateWith 16 = .ok (.iload_n 2, 1) := by decide +kernel
theorem dX2_lateWith_17 : decode cX2_lateWith 17 = .ok (.invokevirtual 133, 3) := by decide +kernel
theorem dX2_lateWith_20 : decode cX2_lateWith 20 = .ok (.goto 8, 3) := by decide +kernel
theorem dX2_lateWith_23 : decode cX2_lateWith 23 = .ok (.aload_n 0, 1) := by decide +kernel
theorem dX2_lateWith_24 : decode cX2_lateWith 24 = .ok (.iconst 1, 1) := by decide +kernel
theorem dX2_lateWith_25 : decode cX2_lateWith 25 = .ok (.invokevirtual 85, 3) := by decide +kernel
theorem dX2_lateWith_28 : decode cX2_lateWith 28 = .ok (.ireturn, 1) := by decide +kernel
set_option maxRecDepth 20000 in
theorem ggX2_best_X2_lostBy : GoodIn wsX2_best wsX2_lostBy := goodIn_r _ [6, 7, 1, 8, 9, 10, 5, 11, 12, 13, 14, 15, 16, 17, 18, 19, 20, 21, 22, 23, 24, 25, 26, 27, 28, 29, 30, 31, 32, 33, 34, 35, 36, 37, 38, 39, 40, 41, 42, 43, 44, 45, 46, 47, 48, 49, 50, 51, 52, 53, 54, 55, 56, 57, 58, 59, 60, 61, 62, 63, 64, 65, 66, 67, 68, 69, 70, 71, 72, 73, 74, 75, 76, 77, 78] (by decide +kernel) (by decide +kernel)
set_option maxRecDepth 20000 in
theorem gX2_best_X2_lostBy : GoodIn wsX2_best (wsV RX2 133 RX2 yX2_lostBy wsX2_lostBy) := goodIn_app (goodIn_of _ (by decide +kernel)) ggX2_best_X2_lostBy
theorem dX2_best_0 : decode cX2_best 0 = .ok (.iconst 0, 1) := by decide +kernel
theorem dX2_best_1 : decode cX2_best 1 = .ok (.istore_n 1, 1) := by decide +kernel
theorem dX2_best_2 : decode cX2_best 2 = .ok (.aload_n 0, 1) := by decide +kernel
theorem dX2_best_3 : decode cX2_best 3 = .ok (.iconst 0, 1) := by decide +kernel
theorem dX2_best_4 : decode cX2_best 4 = .ok (.aload_n 0, 1) := by decide +kernel
theorem dX2_best_5 : decode cX2_best 5 = .ok (.getfield 62, 3) := by decide +kernel
theorem dX2_best_8 : decode cX2_best 8 = .ok (.invokevirtual 133, 3) := by decide +kernel
theorem dX2_best_11 : decode cX2_best 11 = .ok (.istore_n 2, 1) := by decide +kernel
theorem dX2_best_12 : decode cX2_best 12 = .ok (.iconst 1, 1) := by decide +kernel
theorem dX2_best_13 : decode cX2_best 13 = .ok (.istore_n 3, 1) := by decide +kernel
theorem dX2_best_14 : decode cX2_best 14 = .ok (.iload_n 3, 1) := by decide +kernel
theorem dX2_best_15 : decode cX2_best 15 = .ok (.iconst 3, 1) := by decide +kernel
theorem dX2_best_16 : decode cX2_best 16 = .ok (.if_icmp .ge 34, 3) := by decide +kernel
theorem dX2_best_19 : decode cX2_best 19 = .ok (.aload_n 0, 1) := by decide +kernel
theorem dX2_best_20 : decode cX2_best 20 = .ok (.iload_n 3, 1) := by decide +kernel
theorem dX2_best_21 : decode cX2_best 21 = .ok (.aload_n 0, 1) := by decide +kernel
theorem dX2_best_22 : decode cX2_best 22 = .ok (.getfield 62, 3) := by decide +kernel
theorem dX2_best_25 : decode cX2_best 25 = .ok (.invokevirtual 133, 3) := by decide +kernel
theorem dX2_best_28 : decode cX2_best 28 = .ok (.istore 4, 2) := by decide +kernel
theorem dX2_best_30 : decode cX2_best 30 = .ok (.iload 4, 2) := by decide +kernel
theorem dX2_best_32 : decode cX2_best 32 = .ok (.iload_n 2, 1) := by decide +kernel
theorem dX2_best_33 : decode cX2_best 33 = .ok (.if_icmp .lt 6, 3) := by decide +kernel
theorem dX2_best_36 : decode cX2_best 36 = .ok (.goto 8, 3) := by decide +kernel
theorem dX2_best_39 : decode cX2_best 39 = .ok (.iload_n 3, 1) := by decide +kernel
theorem dX2_best_40 : decode cX2_best 40 = .ok (.istore_n 1, 1) := by decide +kernel
theorem dX2_best_41 : decode cX2_best 41 = .ok (.iload 4, 2) := by decide +kernel
theorem dX2_best_43 : decode cX2_best 43 = .ok (.istore_n 2, 1) := by decide +kernel
theorem dX2_best_44 : decode cX2_best 44 = .ok (.iinc 3 1, 3) := by decide +kernel
theorem dX2_best_47 : decode cX2_best 47 = .ok (.goto (-33), 3) := by decide +kernel
theorem dX2_best_50 : decode cX2_best 50 = .ok (.iload_n 1, 1) := by decide +kernel
theorem dX2_best_51 : decode cX2_best 51 = .ok (.ireturn, 1) := by decide +kernel
set_option maxRecDepth 20000 in
theorem ggX2_bestRule_X2_best : GoodIn wsX2_bestRule wsX2_best := goodIn_r _ [5, 6, 7, 8, 9, 4, 10, 11, 12, 13, 14, 15, 16, 17, 18, 19, 20, 21, 22, 23, 24, 25, 26, 27, 28, 29, 30, 31, 32, 33, 34, 35, 36, 37, 38, 39, 40, 41, 42, 43, 44, 45, 46, 47, 48, 49, 50, 51, 52, 53, 54, 55, 56, 57, 58, 59, 60, 61, 62, 63, 64, 65, 66, 67, 68, 69, 70, 76, 77, 78, 79, 80, 81, 82, 83, 84, 85, 86, 87] (by decide +kernel) (by decide +kernel)
set_option maxRecDepth 20000 in
theorem gX2_bestRule_X2_best : GoodIn wsX2_bestRule (wsV RX2 137 RX2 yX2_best wsX2_best) := goodIn_app (goodIn_of _ (by decide +kernel)) ggX2_bestRule_X2_best
set_option maxRecDepth 20000 in
theorem ggX2_bestRule_X2_told : GoodIn wsX2_bestRule wsX2_told := goodIn_r _ [74, 75, 76, 77, 78, 79, 80, 81, 82, 83, 84, 85, 86, 87] (by decide +kernel) (by decide +kernel)
set_option maxRecDepth 20000 in
theorem gX2_bestRule_X2_told : GoodIn wsX2_bestRule (wsV RX2 99 RX2 yX2_told wsX2_told) := goodIn_app (goodIn_of _ (by decide +kernel)) ggX2_bestRule_X2_told
theorem dX2_bestRule_0 : decode cX2_bestRule 0 = .ok (.aload_n 0, 1) := by decide +kernel
theorem dX2_bestRule_1 : decode cX2_bestRule 1 = .ok (.aload_n 0, 1) := by decide +kernel
theorem dX2_bestRule_2 : decode cX2_bestRule 2 = .ok (.invokevirtual 137, 3) := by decide +kernel
theorem dX2_bestRule_5 : decode cX2_bestRule 5 = .ok (.invokevirtual 99, 3) := by decide +kernel
theorem dX2_bestRule_8 : decode cX2_bestRule 8 = .ok (.ireturn, 1) := by decide +kernel
set_option maxRecDepth 20000 in
theorem ggX2_wouldBeInTime_X2_isIn : GoodIn wsX2_wouldBeInTime wsX2_isIn := goodIn_r _ [7] (by decide +kernel) (by decide +kernel)
set_option maxRecDepth 20000 in
theorem gX2_wouldBeInTime_X2_isIn : GoodIn wsX2_wouldBeInTime (va_wsS RX2 38 yX2_isIn wsX2_isIn) := goodIn_app (goodIn_of _ (by decide +kernel)) ggX2_wouldBeInTime_X2_isIn
set_option maxRecDepth 20000 in
theorem ggX2_wouldBeInTime_X2_keep : GoodIn wsX2_wouldBeInTime wsX2_keep := goodIn_r _ [11, 3, 12, 13, 14, 15, 16, 65, 66, 67, 68, 69, 70, 71, 72, 73, 74, 75, 76] (by decide +kernel) (by decide +kernel)
set_option maxRecDepth 20000 in
theorem gX2_wouldBeInTime_X2_keep : GoodIn wsX2_wouldBeInTime (wsV RX2 124 RX2 yX2_keep wsX2_keep) := goodIn_app (goodIn_of _ (by decide +kernel)) ggX2_wouldBeInTime_X2_keep
set_option maxRecDepth 20000 in
theorem ggX2_wouldBeInTime_X2_put : GoodIn wsX2_wouldBeInTime wsX2_put := goodIn_r _ [20, 21, 2, 22, 3, 65, 66, 67, 68, 69, 70, 71, 72, 73, 74, 75, 76] (by decide +kernel) (by decide +kernel)
set_option maxRecDepth 20000 in
theorem gX2_wouldBeInTime_X2_put : GoodIn wsX2_wouldBeInTime (wsV RX2 88 RX2 yX2_put wsX2_put) := goodIn_app (goodIn_of _ (by decide +kernel)) ggX2_wouldBeInTime_X2_put
set_option maxRecDepth 20000 in
theorem ggX2_wouldBeInTime_X2_hoursOn : GoodIn wsX2_wouldBeInTime wsX2_hoursOn := goodIn_r _ [26, 27, 28, 29, 6, 30, 2, 31, 3, 32, 33, 34, 35, 36, 37, 38, 39, 40, 41, 42, 43, 44, 45, 46, 47, 48, 49, 50, 51, 52, 22, 53, 54, 55, 56, 57, 58, 59, 60, 65, 66, 67, 68, 69, 70, 71, 72, 73, 74, 75, 76] (by decide +kernel) (by decide +kernel)
set_option maxRecDepth 20000 in
theorem gX2_wouldBeInTime_X2_hoursOn : GoodIn wsX2_wouldBeInTime (wsV RX2 95 RX2 yX2_hoursOn wsX2_hoursOn) := goodIn_app (goodIn_of _ (by decide +kernel)) ggX2_wouldBeInTime_X2_hoursOn
set_option maxRecDepth 20000 in
theorem ggX2_wouldBeInTime_X2_bringBack : GoodIn wsX2_wouldBeInTime wsX2_bringBack := goodIn_r _ [64, 12, 3, 13, 14, 15, 16, 65, 66, 67, 68, 69, 70, 71, 72, 73, 74, 75, 76] (by decide +kernel) (by decide +kernel)
set_option maxRecDepth 20000 in
theorem gX2_wouldBeInTime_X2_bringBack : GoodIn wsX2_wouldBeInTime (wsV RX2 127 RX2 yX2_bringBack wsX2_bringBack) := goodIn_app (goodIn_of _ (by decide +kernel)) ggX2_wouldBeInTime_X2_bringBack
theorem dX2_wouldBeInTime_0 : decode cX2_wouldBeInTime 0 = .ok (.aload_n 0, 1) := by decide +kernel
theorem dX2_wouldBeInTime_1 : decode cX2_wouldBeInTime 1 = .ok (.iload_n 1, 1) := by decide +kernel
theorem dX2_wouldBeInTime_2 : decode cX2_wouldBeInTime 2 = .ok (.iconst 1, 1) := by decide +kernel
theorem dX2_wouldBeInTime_3 : decode cX2_wouldBeInTime 3 = .ok (.bipush 60, 2) := by decide +kernel
theorem dX2_wouldBeInTime_5 : decode cX2_wouldBeInTime 5 = .ok (.invokestatic 38, 3) := by decide +kernel
theorem dX2_wouldBeInTime_8 : decode cX2_wouldBeInTime 8 = .ok (.ifCond .eq 18, 3) := by decide +kernel
theorem dX2_wouldBeInTime_11 : decode cX2_wouldBeInTime 11 = .ok (.iload_n 2, 1) := by decide +kernel
theorem dX2_wouldBeInTime_12 : decode cX2_wouldBeInTime 12 = .ok (.iconst 1, 1) := by decide +kernel
theorem dX2_wouldBeInTime_13 : decode cX2_wouldBeInTime 13 = .ok (.sipush 200, 3) := by decide +kernel
theorem dX2_wouldBeInTime_16 : decode cX2_wouldBeInTime 16 = .ok (.invokestatic 38, 3) := by decide +kernel
theorem dX2_wouldBeInTime_19 : decode cX2_wouldBeInTime 19 = .ok (.ifCond .eq 7, 3) := by decide +kernel
theorem dX2_wouldBeInTime_22 : decode cX2_wouldBeInTime 22 = .ok (.iconst 0, 1) := by decide +kernel
theorem dX2_wouldBeInTime_23 : decode cX2_wouldBeInTime 23 = .ok (.goto 4, 3) := by decide +kernel
theorem dX2_wouldBeInTime_26 : decode cX2_wouldBeInTime 26 = .ok (.iconst 1, 1) := by decide +kernel
theorem dX2_wouldBeInTime_27 : decode cX2_wouldBeInTime 27 = .ok (.putfield 31, 3) := by decide +kernel
theorem dX2_wouldBeInTime_30 : decode cX2_wouldBeInTime 30 = .ok (.aload_n 0, 1) := by decide +kernel
theorem dX2_wouldBeInTime_31 : decode cX2_wouldBeInTime 31 = .ok (.getfield 31, 3) := by decide +kernel
theorem dX2_wouldBeInTime_34 : decode cX2_wouldBeInTime 34 = .ok (.ifCond .gt 12, 3) := by decide +kernel
theorem dX2_wouldBeInTime_37 : decode cX2_wouldBeInTime 37 = .ok (.aload_n 0, 1) := by decide +kernel
theorem dX2_wouldBeInTime_38 : decode cX2_wouldBeInTime 38 = .ok (.getfield 42, 3) := by decide +kernel
theorem dX2_wouldBeInTime_41 : decode cX2_wouldBeInTime 41 = .ok (.bipush 16, 2) := by decide +kernel
theorem dX2_wouldBeInTime_43 : decode cX2_wouldBeInTime 43 = .ok (.if_icmp .ne 5, 3) := by decide +kernel
theorem dX2_wouldBeInTime_46 : decode cX2_wouldBeInTime 46 = .ok (.iconst 0, 1) := by decide +kernel
theorem dX2_wouldBeInTime_47 : decode cX2_wouldBeInTime 47 = .ok (.ireturn, 1) := by decide +kernel
theorem dX2_wouldBeInTime_48 : decode cX2_wouldBeInTime 48 = .ok (.aload_n 0, 1) := by decide +kernel
theorem dX2_wouldBeInTime_49 : decode cX2_wouldBeInTime 49 = .ok (.invokevirtual 124, 3) := by decide +kernel
theorem dX2_wouldBeInTime_52 : decode cX2_wouldBeInTime 52 = .ok (.aload_n 0, 1) := by decide +kernel
theorem dX2_wouldBeInTime_53 : decode cX2_wouldBeInTime 53 = .ok (.iconst 0, 1) := by decide +kernel
theorem dX2_wouldBeInTime_54 : decode cX2_wouldBeInTime 54 = .ok (.iload_n 1, 1) := by decide +kernel
theorem dX2_wouldBeInTime_55 : decode cX2_wouldBeInTime 55 = .ok (.iload_n 2, 1) := by decide +kernel
theorem dX2_wouldBeInTime_56 : decode cX2_wouldBeInTime 56 = .ok (.invokevirtual 88, 3) := by decide +kernel
theorem dX2_wouldBeInTime_59 : decode cX2_wouldBeInTime 59 = .ok (.aload_n 0, 1) := by decide +kernel
theorem dX2_wouldBeInTime_60 : decode cX2_wouldBeInTime 60 = .ok (.sipush 200, 3) := by decide +kernel
theorem dX2_wouldBeInTime_63 : decode cX2_wouldBeInTime 63 = .ok (.invokevirtual 95, 3) := by decide +kernel
theorem dX2_wouldBeInTime_66 : decode cX2_wouldBeInTime 66 = .ok (.aload_n 0, 1) := by decide +kernel
theorem dX2_wouldBeInTime_67 : decode cX2_wouldBeInTime 67 = .ok (.dup, 1) := by decide +kernel
theorem dX2_wouldBeInTime_68 : decode cX2_wouldBeInTime 68 = .ok (.getfield 42, 3) := by decide +kernel
theorem dX2_wouldBeInTime_71 : decode cX2_wouldBeInTime 71 = .ok (.iconst 1, 1) := by decide +kernel
theorem dX2_wouldBeInTime_72 : decode cX2_wouldBeInTime 72 = .ok (.isub, 1) := by decide +kernel
theorem dX2_wouldBeInTime_73 : decode cX2_wouldBeInTime 73 = .ok (.putfield 42, 3) := by decide +kernel
theorem dX2_wouldBeInTime_76 : decode cX2_wouldBeInTime 76 = .ok (.aload_n 0, 1) := by decide +kernel
theorem dX2_wouldBeInTime_77 : decode cX2_wouldBeInTime 77 = .ok (.getfield 22, 3) := by decide +kernel
theorem dX2_wouldBeInTime_80 : decode cX2_wouldBeInTime 80 = .ok (.bipush 19, 2) := by decide +kernel
theorem dX2_wouldBeInTime_82 : decode cX2_wouldBeInTime 82 = .ok (.aload_n 0, 1) := by decide +kernel
theorem dX2_wouldBeInTime_83 : decode cX2_wouldBeInTime 83 = .ok (.getfield 42, 3) := by decide +kernel
theorem dX2_wouldBeInTime_86 : decode cX2_wouldBeInTime 86 = .ok (.iadd, 1) := by decide +kernel
theorem dX2_wouldBeInTime_87 : decode cX2_wouldBeInTime 87 = .ok (.iaload, 1) := by decide +kernel
theorem dX2_wouldBeInTime_88 : decode cX2_wouldBeInTime 88 = .ok (.istore_n 3, 1) := by decide +kernel
theorem dX2_wouldBeInTime_89 : decode cX2_wouldBeInTime 89 = .ok (.aload_n 0, 1) := by decide +kernel
theorem dX2_wouldBeInTime_90 : decode cX2_wouldBeInTime 90 = .ok (.invokevirtual 127, 3) := by decide +kernel
theorem dX2_wouldBeInTime_93 : decode cX2_wouldBeInTime 93 = .ok (.iload_n 3, 1) := by decide +kernel
theorem dX2_wouldBeInTime_94 : decode cX2_wouldBeInTime 94 = .ok (.iconst (-1), 1) := by decide +kernel
theorem dX2_wouldBeInTime_95 : decode cX2_wouldBeInTime 95 = .ok (.if_icmp .eq 12, 3) := by decide +kernel
theorem dX2_wouldBeInTime_98 : decode cX2_wouldBeInTime 98 = .ok (.iload_n 3, 1) := by decide +kernel
theorem dX2_wouldBeInTime_99 : decode cX2_wouldBeInTime 99 = .ok (.iload_n 2, 1) := by decide +kernel
theorem dX2_wouldBeInTime_100 : decode cX2_wouldBeInTime 100 = .ok (.if_icmp .gt 7, 3) := by decide +kernel
theorem dX2_wouldBeInTime_103 : decode cX2_wouldBeInTime 103 = .ok (.iconst 1, 1) := by decide +kernel
theorem dX2_wouldBeInTime_104 : decode cX2_wouldBeInTime 104 = .ok (.goto 4, 3) := by decide +kernel
theorem dX2_wouldBeInTime_107 : decode cX2_wouldBeInTime 107 = .ok (.iconst 0, 1) := by decide +kernel
theorem dX2_wouldBeInTime_108 : decode cX2_wouldBeInTime 108 = .ok (.ireturn, 1) := by decide +kernel
set_option maxRecDepth 20000 in
theorem ggX2_milledIn_X2_keep : GoodIn wsX2_milledIn wsX2_keep := goodIn_r _ [6, 1, 7, 8, 9, 10, 11, 56, 57, 58, 59, 60, 61, 62, 63, 64, 65, 66, 67] (by decide +kernel) (by decide +kernel)
set_option maxRecDepth 20000 in
theorem gX2_milledIn_X2_keep : GoodIn wsX2_milledIn (wsV RX2 124 RX2 yX2_keep wsX2_keep) := goodIn_app (goodIn_of _ (by decide +kernel)) ggX2_milledIn_X2_keep
set_option maxRecDepth 20000 in
theorem ggX2_milledIn_X2_hoursOn : GoodIn wsX2_milledIn wsX2_hoursOn := goodIn_r _ [15, 16, 17, 18, 5, 19, 20, 21, 1, 22, 23, 24, 25, 26, 27, 28, 29, 30, 31, 32, 33, 34, 35, 36, 37, 38, 39, 40, 41, 42, 43, 44, 45, 46, 47, 48, 49, 50, 51, 56, 57, 58, 59, 60, 61, 62, 63, 64, 65, 66, 67] (by decide +kernel) (by decide +kernel)
set_option maxRecDepth 20000 in
theorem gX2_milledIn_X2_hoursOn : GoodIn wsX2_milledIn (wsV RX2 95 RX2 yX2_hoursOn wsX2_hoursOn) := goodIn_app (goodIn_of _ (by decide +kernel)) ggX2_milledIn_X2_hoursOn
set_option maxRecDepth 20000 in
theorem ggX2_milledIn_X2_bringBack : GoodIn wsX2_milledIn wsX2_bringBack := goodIn_r _ [55, 7, 1, 8, 9, 10, 11, 56, 57, 58, 59, 60, 61, 62, 63, 64, 65, 66, 67] (by decide +kernel) (by decide +kernel)
set_option maxRecDepth 20000 in
theorem gX2_milledIn_X2_bringBack : GoodIn wsX2_milledIn (wsV RX2 127 RX2 yX2_bringBack wsX2_bringBack) := goodIn_app (goodIn_of _ (by decide +kernel)) ggX2_milledIn_X2_bringBack
theorem dX2_milledIn_0 : decode cX2_milledIn 0 = .ok (.aload_n 0, 1) := by decide +kernel
theorem dX2_milledIn_1 : decode cX2_milledIn 1 = .ok (.invokevirtual 124, 3) := by decide +kernel
theorem dX2_milledIn_4 : decode cX2_milledIn 4 = .ok (.aload_n 0, 1) := by decide +kernel
theorem dX2_milledIn_5 : decode cX2_milledIn 5 = .ok (.getfield 22, 3) := by decide +kernel
theorem dX2_milledIn_8 : decode cX2_milledIn 8 = .ok (.iconst 2, 1) := by decide +kernel
theorem dX2_milledIn_9 : decode cX2_milledIn 9 = .ok (.iaload, 1) := by decide +kernel
theorem dX2_milledIn_10 : decode cX2_milledIn 10 = .ok (.istore_n 2, 1) := by decide +kernel
theorem dX2_milledIn_11 : decode cX2_milledIn 11 = .ok (.aload_n 0, 1) := by decide +kernel
theorem dX2_milledIn_12 : decode cX2_milledIn 12 = .ok (.iload_n 1, 1) := by decide +kernel
theorem dX2_milledIn_13 : decode cX2_milledIn 13 = .ok (.invokevirtual 95, 3) := by decide +kernel
theorem dX2_milledIn_16 : decode cX2_milledIn 16 = .ok (.aload_n 0, 1) := by decide +kernel
theorem dX2_milledIn_17 : decode cX2_milledIn 17 = .ok (.getfield 22, 3) := by decide +kernel
theorem dX2_milledIn_20 : decode cX2_milledIn 20 = .ok (.iconst 2, 1) := by decide +kernel
theorem dX2_milledIn_21 : decode cX2_milledIn 21 = .ok (.iaload, 1) := by decide +kernel
theorem dX2_milledIn_22 : decode cX2_milledIn 22 = .ok (.iload_n 2, 1) := by decide +kernel
theorem dX2_milledIn_23 : decode cX2_milledIn 23 = .ok (.isub, 1) := by decide +kernel
theorem dX2_milledIn_24 : decode cX2_milledIn 24 = .ok (.istore_n 3, 1) := by decide +kernel
theorem dX2_milledIn_25 : decode cX2_milledIn 25 = .ok (.aload_n 0, 1) := by decide +kernel
theorem dX2_milledIn_26 : decode cX2_milledIn 26 = .ok (.invokevirtual 127, 3) := by decide +kernel
theorem dX2_milledIn_29 : decode cX2_milledIn 29 = .ok (.iload_n 3, 1) := by decide +kernel
theorem dX2_milledIn_30 : decode cX2_milledIn 30 = .ok (.ireturn, 1) := by decide +kernel
set_option maxRecDepth 20000 in
theorem ggX2_groundIn_X2_isIn : GoodIn wsX2_groundIn wsX2_isIn := goodIn_r _ [5] (by decide +kernel) (by decide +kernel)
set_option maxRecDepth 20000 in
theorem gX2_groundIn_X2_isIn : GoodIn wsX2_groundIn (va_wsS RX2 38 yX2_isIn wsX2_isIn) := goodIn_app (goodIn_of _ (by decide +kernel)) ggX2_groundIn_X2_isIn
set_option maxRecDepth 20000 in
theorem ggX2_groundIn_X2_milledIn : GoodIn wsX2_groundIn wsX2_milledIn := goodIn_r _ [9, 10, 11, 12, 13, 4, 14, 15, 16, 17, 18, 19, 20, 21, 22, 23, 24, 25, 26, 27, 28, 29, 30, 31, 32, 33, 34, 35, 36, 37, 38, 39, 40, 41, 42, 43, 44, 45, 46, 47, 48, 49, 50, 51, 52, 53, 54, 55, 56, 57, 58, 59, 60, 61, 62, 63, 68, 69, 70, 71, 72, 73, 74, 75, 76, 77, 78, 79] (by decide +kernel) (by decide +kernel)
set_option maxRecDepth 20000 in
theorem gX2_groundIn_X2_milledIn : GoodIn wsX2_groundIn (wsV RX2 140 RX2 yX2_milledIn wsX2_milledIn) := goodIn_app (goodIn_of _ (by decide +kernel)) ggX2_groundIn_X2_milledIn
set_option maxRecDepth 20000 in
theorem ggX2_groundIn_X2_fail : GoodIn wsX2_groundIn wsX2_fail := goodIn_r _ [67, 1, 68, 69, 70, 71, 72, 73, 74, 75, 76, 77, 78, 79] (by decide +kernel) (by decide +kernel)
set_option maxRecDepth 20000 in
theorem gX2_groundIn_X2_fail : GoodIn wsX2_groundIn (wsV RX2 85 RX2 yX2_fail wsX2_fail) := goodIn_app (goodIn_of _ (by decide +kernel)) ggX2_groundIn_X2_fail
theorem dX2_groundIn_0 : decode cX2_groundIn 0 = .ok (.aload_n 0, 1) := by decide +kernel
theorem dX2_groundIn_1 : decode cX2_groundIn 1 = .ok (.iconst 0, 1) := by decide +kernel
theorem dX2_groundIn_2 : decode cX2_groundIn 2 = .ok (.putfield 31, 3) := by decide +kernel
theorem dX2_groundIn_5 : decode cX2_groundIn 5 = .ok (.iload_n 1, 1) := by decide +kernel
theorem dX2_groundIn_6 : decode cX2_groundIn 6 = .ok (.iconst 1, 1) := by decide +kernel
theorem dX2_groundIn_7 : decode cX2_groundIn 7 = .ok (.bipush 60, 2) := by decide +kernel
theorem dX2_groundIn_9 : decode cX2_groundIn 9 = .ok (.invokestatic 38, 3) := by decide +kernel
theorem dX2_groundIn_12 : decode cX2_groundIn 12 = .ok (.ifCond .eq 11, 3) := by decide +kernel
theorem dX2_groundIn_15 : decode cX2_groundIn 15 = .ok (.aload_n 0, 1) := by decide +kernel
theorem dX2_groundIn_16 : decode cX2_groundIn 16 = .ok (.iload_n 1, 1) := by decide +kernel
theorem dX2_groundIn_17 : decode cX2_groundIn 17 = .ok (.invokevirtual 140, 3) := by decide +kernel
theorem dX2_groundIn_20 : decode cX2_groundIn 20 = .ok (.goto 8, 3) := by decide +kernel
theorem dX2_groundIn_23 : decode cX2_groundIn 23 = .ok (.aload_n 0, 1) := by decide +kernel
theorem dX2_groundIn_24 : decode cX2_groundIn 24 = .ok (.iconst 1, 1) := by decide +kernel
theorem dX2_groundIn_25 : decode cX2_groundIn 25 = .ok (.invokevirtual 85, 3) := by decide +kernel
theorem dX2_groundIn_28 : decode cX2_groundIn 28 = .ok (.ireturn, 1) := by decide +kernel
set_option maxRecDepth 20000 in
theorem ggX2_meanLeft_X2_done : GoodIn wsX2_meanLeft wsX2_done := goodIn_r _ [8, 2, 9, 10, 11, 7, 12, 3, 13, 14, 15, 16, 17, 18, 19, 20, 21, 22, 23, 24] (by decide +kernel) (by decide +kernel)
set_option maxRecDepth 20000 in
theorem gX2_meanLeft_X2_done : GoodIn wsX2_meanLeft (wsV RX2 108 RX2 yX2_done wsX2_done) := goodIn_app (goodIn_of _ (by decide +kernel)) ggX2_meanLeft_X2_done
theorem dX2_meanLeft_0 : decode cX2_meanLeft 0 = .ok (.aload_n 0, 1) := by decide +kernel
theorem dX2_meanLeft_1 : decode cX2_meanLeft 1 = .ok (.iconst 0, 1) := by decide +kernel
theorem dX2_meanLeft_2 : decode cX2_meanLeft 2 = .ok (.putfield 31, 3) := by decide +kernel
theorem dX2_meanLeft_5 : decode cX2_meanLeft 5 = .ok (.iconst 0, 1) := by decide +kernel
theorem dX2_meanLeft_6 : decode cX2_meanLeft 6 = .ok (.istore_n 1, 1) := by decide +kernel
theorem dX2_meanLeft_7 : decode cX2_meanLeft 7 = .ok (.iconst 0, 1) := by decide +kernel
theorem dX2_meanLeft_8 : decode cX2_meanLeft 8 = .ok (.istore_n 2, 1) := by decide +kernel
theorem dX2_meanLeft_9 : decode cX2_meanLeft 9 = .ok (.iload_n 2, 1) := by decide +kernel
theorem dX2_meanLeft_10 : decode cX2_meanLeft 10 = .ok (.aload_n 0, 1) := by decide +kernel
theorem dX2_meanLeft_11 : decode cX2_meanLeft 11 = .ok (.getfield 42, 3) := by decide +kernel
theorem dX2_meanLeft_14 : decode cX2_meanLeft 14 = .ok (.if_icmp .ge 20, 3) := by decide +kernel
theorem dX2_meanLeft_17 : decode cX2_meanLeft 17 = .ok (.iload_n 1, 1) := by decide +kernel
theorem dX2_meanLeft_18 : decode cX2_meanLeft 18 = .ok (.aload_n 0, 1) := by decide +kernel
theorem dX2_meanLeft_19 : decode cX2_meanLeft 19 = .ok (.getfield 22, 3) := by decide +kernel
theorem dX2_meanLeft_22 : decode cX2_meanLeft 22 = .ok (.iconst 3, 1) := by decide +kernel
theorem dX2_meanLeft_23 : decode cX2_meanLeft 23 = .ok (.iload_n 2, 1) := by decide +kernel
theorem dX2_meanLeft_24 : decode cX2_meanLeft 24 = .ok (.iadd, 1) := by decide +kernel
theorem dX2_meanLeft_25 : decode cX2_meanLeft 25 = .ok (.iaload, 1) := by decide +kernel
theorem dX2_meanLeft_26 : decode cX2_meanLeft 26 = .ok (.iadd, 1) := by decide +kernel
theorem dX2_meanLeft_27 : decode cX2_meanLeft 27 = .ok (.istore_n 1, 1) := by decide +kernel
theorem dX2_meanLeft_28 : decode cX2_meanLeft 28 = .ok (.iinc 2 1, 3) := by decide +kernel
theorem dX2_meanLeft_31 : decode cX2_meanLeft 31 = .ok (.goto (-22), 3) := by decide +kernel
theorem dX2_meanLeft_34 : decode cX2_meanLeft 34 = .ok (.aload_n 0, 1) := by decide +kernel
theorem dX2_meanLeft_35 : decode cX2_meanLeft 35 = .ok (.getfield 42, 3) := by decide +kernel
theorem dX2_meanLeft_38 : decode cX2_meanLeft 38 = .ok (.aload_n 0, 1) := by decide +kernel
theorem dX2_meanLeft_39 : decode cX2_meanLeft 39 = .ok (.invokevirtual 108, 3) := by decide +kernel
theorem dX2_meanLeft_42 : decode cX2_meanLeft 42 = .ok (.isub, 1) := by decide +kernel
theorem dX2_meanLeft_43 : decode cX2_meanLeft 43 = .ok (.istore_n 2, 1) := by decide +kernel
theorem dX2_meanLeft_44 : decode cX2_meanLeft 44 = .ok (.iload_n 2, 1) := by decide +kernel
theorem dX2_meanLeft_45 : decode cX2_meanLeft 45 = .ok (.ifCond .ne 7, 3) := by decide +kernel
theorem dX2_meanLeft_48 : decode cX2_meanLeft 48 = .ok (.dconst 0, 1) := by decide +kernel
theorem dX2_meanLeft_49 : decode cX2_meanLeft 49 = .ok (.goto 8, 3) := by decide +kernel
theorem dX2_meanLeft_52 : decode cX2_meanLeft 52 = .ok (.iload_n 1, 1) := by decide +kernel
theorem dX2_meanLeft_53 : decode cX2_meanLeft 53 = .ok (.i2d, 1) := by decide +kernel
theorem dX2_meanLeft_54 : decode cX2_meanLeft 54 = .ok (.iload_n 2, 1) := by decide +kernel
theorem dX2_meanLeft_55 : decode cX2_meanLeft 55 = .ok (.i2d, 1) := by decide +kernel
theorem dX2_meanLeft_56 : decode cX2_meanLeft 56 = .ok (.ddiv, 1) := by decide +kernel
theorem dX2_meanLeft_57 : decode cX2_meanLeft 57 = .ok (.dreturn, 1) := by decide +kernel
set_option maxRecDepth 20000 in
theorem ggX2_digest_X2_done : GoodIn wsX2_digest wsX2_done := goodIn_r _ [15, 5, 16, 17, 18, 14, 19, 3, 92, 93, 94, 95, 96, 97, 98, 99, 100, 101, 102, 103] (by decide +kernel) (by decide +kernel)
set_option maxRecDepth 20000 in
theorem gX2_digest_X2_done : GoodIn wsX2_digest (wsV RX2 108 RX2 yX2_done wsX2_done) := goodIn_app (goodIn_of _ (by decide +kernel)) ggX2_digest_X2_done
set_option maxRecDepth 20000 in
theorem ggX2_digest_X2_next : GoodIn wsX2_digest wsX2_next := goodIn_r _ [23, 5, 3, 16, 17, 18, 14, 19, 24, 25, 26, 27, 6, 10, 92, 93, 94, 95, 96, 97, 98, 99, 100, 101, 102, 103] (by decide +kernel) (by decide +kernel)
set_option maxRecDepth 20000 in
theorem gX2_digest_X2_next : GoodIn wsX2_digest (wsV RX2 72 RX2 yX2_next wsX2_next) := goodIn_app (goodIn_of _ (by decide +kernel)) ggX2_digest_X2_next
set_option maxRecDepth 20000 in
theorem ggX2_digest_X2_lost : GoodIn wsX2_digest wsX2_lost := goodIn_r _ [31, 5, 3, 10, 32, 33, 34, 35, 16, 17, 18, 14, 19, 92, 93, 94, 95, 96, 97, 98, 99, 100, 101, 102, 103] (by decide +kernel) (by decide +kernel)
set_option maxRecDepth 20000 in
theorem gX2_digest_X2_lost : GoodIn wsX2_digest (wsV RX2 121 RX2 yX2_lost wsX2_lost) := goodIn_app (goodIn_of _ (by decide +kernel)) ggX2_digest_X2_lost
set_option maxRecDepth 20000 in
theorem ggX2_digest_X2_best : GoodIn wsX2_digest wsX2_best := goodIn_r _ [39, 40, 41, 42, 43, 14, 44, 6, 45, 46, 47, 48, 3, 49, 50, 51, 52, 53, 54, 55, 56, 57, 58, 59, 60, 61, 5, 4, 62, 7, 63, 64, 65, 34, 66, 67, 68, 69, 70, 16, 17, 18, 19, 24, 25, 26, 27, 10, 71, 72, 73, 74, 20, 21, 22, 23, 28, 29, 30, 31, 32, 33, 35, 75, 76, 77, 78, 92, 93, 94, 95, 96, 97, 98, 99, 100, 101, 102, 103] (by decide +kernel) (by decide +kernel)
set_option maxRecDepth 20000 in
theorem gX2_digest_X2_best : GoodIn wsX2_digest (wsV RX2 137 RX2 yX2_best wsX2_best) := goodIn_app (goodIn_of _ (by decide +kernel)) ggX2_digest_X2_best
set_option maxRecDepth 20000 in
theorem ggX2_digest_X2_milledIn : GoodIn wsX2_digest wsX2_milledIn := goodIn_r _ [82, 3, 45, 46, 47, 14, 48, 49, 50, 51, 52, 53, 54, 55, 56, 57, 58, 59, 60, 61, 5, 40, 4, 62, 7, 63, 64, 65, 34, 66, 67, 68, 69, 70, 16, 17, 18, 19, 24, 25, 26, 27, 6, 10, 71, 72, 73, 74, 20, 21, 22, 23, 75, 76, 77, 78, 92, 93, 94, 95, 96, 97, 98, 99, 100, 101, 102, 103] (by decide +kernel) (by decide +kernel)
set_option maxRecDepth 20000 in
theorem gX2_digest_X2_milledIn : GoodIn wsX2_digest (wsV RX2 140 RX2 yX2_milledIn wsX2_milledIn) := goodIn_app (goodIn_of _ (by decide +kernel)) ggX2_digest_X2_milledIn
set_option maxRecDepth 20000 in
theorem ggX2_digest_X2_on : GoodIn wsX2_digest wsX2_on := goodIn_r _ [74, 5, 3, 92, 93, 94, 95, 96, 97, 98, 99, 100, 101, 102, 103] (by decide +kernel) (by decide +kernel)
set_option maxRecDepth 20000 in
theorem gX2_digest_X2_on : GoodIn wsX2_digest (wsV RX2 69 RX2 yX2_on wsX2_on) := goodIn_app (goodIn_of _ (by decide +kernel)) ggX2_digest_X2_on
set_option maxRecDepth 20000 in
theorem ggX2_digest_X2_keep : GoodIn wsX2_digest wsX2_keep := goodIn_r _ [48, 3, 49, 50, 51, 52, 53, 92, 93, 94, 95, 96, 97, 98, 99, 100, 101, 102, 103] (by decide +kernel) (by decide +kernel)
set_option maxRecDepth 20000 in
theorem gX2_digest_X2_keep : GoodIn wsX2_digest (wsV RX2 124 RX2 yX2_keep wsX2_keep) := goodIn_app (goodIn_of _ (by decide +kernel)) ggX2_digest_X2_keep
set_option maxRecDepth 20000 in
theorem ggX2_digest_X2_hoursOn : GoodIn wsX2_digest wsX2_hoursOn := goodIn_r _ [57, 58, 59, 60, 14, 61, 5, 40, 3, 4, 62, 7, 63, 64, 65, 34, 66, 67, 68, 69, 70, 16, 17, 18, 19, 24, 25, 26, 27, 6, 10, 71, 72, 73, 74, 20, 21, 22, 23, 92, 93, 94, 95, 96, 97, 98, 99, 100, 101, 102, 103] (by decide +kernel) (by decide +kernel)
set_option maxRecDepth 20000 in
theorem gX2_digest_X2_hoursOn : GoodIn wsX2_digest (wsV RX2 95 RX2 yX2_hoursOn wsX2_hoursOn) := goodIn_app (goodIn_of _ (by decide +kernel)) ggX2_digest_X2_hoursOn
set_option maxRecDepth 20000 in
theorem ggX2_digest_X2_bringBack : GoodIn wsX2_digest wsX2_bringBack := goodIn_r _ [78, 49, 3, 50, 51, 52, 53, 92, 93, 94, 95, 96, 97, 98, 99, 100, 101, 102, 103] (by decide +kernel) (by decide +kernel)
set_option maxRecDepth 20000 in
theorem gX2_digest_X2_bringBack : GoodIn wsX2_digest (wsV RX2 127 RX2 yX2_bringBack wsX2_bringBack) := goodIn_app (goodIn_of _ (by decide +kernel)) ggX2_digest_X2_bringBack
set_option maxRecDepth 20000 in
theorem ggX2_digest_X2_place : GoodIn wsX2_digest wsX2_place := goodIn_r _ [86, 16, 17, 18, 14, 19, 3, 67, 68, 69, 70, 5, 24, 25, 26, 27, 6, 10, 92, 93, 94, 95, 96, 97, 98, 99, 100, 101, 102, 103] (by decide +kernel) (by decide +kernel)
set_option maxRecDepth 20000 in
theorem gX2_digest_X2_place : GoodIn wsX2_digest (wsV RX2 112 RX2 yX2_place wsX2_place) := goodIn_app (goodIn_of _ (by decide +kernel)) ggX2_digest_X2_place
set_option maxRecDepth 20000 in
theorem ggX2_digest_X2_rest : GoodIn wsX2_digest wsX2_rest := goodIn_r _ [90, 5, 91, 3, 92, 93, 94, 95, 96, 97, 98, 99, 100, 101, 102, 103] (by decide +kernel) (by decide +kernel)
set_option maxRecDepth 20000 in
theorem gX2_digest_X2_rest : GoodIn wsX2_digest (wsV RX2 115 RX2 yX2_rest wsX2_rest) := goodIn_app (goodIn_of _ (by decide +kernel)) ggX2_digest_X2_rest
theorem dX2_digest_0 : decode cX2_digest 0 = .ok (.aload_n 0, 1) := by decide +kernel
theorem dX2_digest_1 : decode cX2_digest 1 = .ok (.iconst 0, 1) := by decide +kernel
theorem dX2_digest_2 : decode cX2_digest 2 = .ok (.putfield 31, 3) := by decide +kernel
theorem dX2_digest_5 : decode cX2_digest 5 = .ok (.bipush 11, 2) := by decide +kernel
theorem dX2_digest_7 : decode cX2_digest 7 = .ok (.newarray .int, 2) := by decide +kernel
theorem dX2_digest_9 : decode cX2_digest 9 = .ok (.dup, 1) := by decide +kernel
theorem dX2_digest_10 : decode cX2_digest 10 = .ok (.iconst 0, 1) := by decide +kernel
theorem dX2_digest_11 : decode cX2_digest 11 = .ok (.aload_n 0, 1) := by decide +kernel
theorem dX2_digest_12 : decode cX2_digest 12 = .ok (.getfield 22, 3) := by decide +kernel
theorem dX2_digest_15 : decode cX2_digest 15 = .ok (.iconst 0, 1) := by decide +kernel
theorem dX2_digest_16 : decode cX2_digest 16 = .ok (.iaload, 1) := by decide +kernel
theorem dX2_digest_17 : decode cX2_digest 17 = .ok (.iastore, 1) := by decide +kernel
theorem dX2_digest_18 : decode cX2_digest 18 = .ok (.dup, 1) := by decide +kernel
theorem dX2_digest_19 : decode cX2_digest 19 = .ok (.iconst 1, 1) := by decide +kernel
theorem dX2_digest_20 : decode cX2_digest 20 = .ok (.aload_n 0, 1) := by decide +kernel
theorem dX2_digest_21 : decode cX2_digest 21 = .ok (.getfield 35, 3) := by decide +kernel
theorem dX2_digest_24 : decode cX2_digest 24 = .ok (.iastore, 1) := by decide +kernel
theorem dX2_digest_25 : decode cX2_digest 25 = .ok (.dup, 1) := by decide +kernel
theorem dX2_digest_26 : decode cX2_digest 26 = .ok (.iconst 2, 1) := by decide +kernel
theorem dX2_digest_27 : decode cX2_digest 27 = .ok (.aload_n 0, 1) := by decide +kernel
theorem dX2_digest_28 : decode cX2_digest 28 = .ok (.getfield 42, 3) := by decide +kernel
theorem dX2_digest_31 : decode cX2_digest 31 = .ok (.iastore, 1) := by decide +kernel
theorem dX2_digest_32 : decode cX2_digest 32 = .ok (.dup, 1) := by decide +kernel
theorem dX2_digest_33 : decode cX2_digest 33 = .ok (.iconst 3, 1) := by decide +kernel
theorem dX2_digest_34 : decode cX2_digest 34 = .ok (.aload_n 0, 1) := by decide +kernel
theorem dX2_digest_35 : decode cX2_digest 35 = .ok (.getfield 51, 3) := by decide +kernel
theorem dX2_digest_38 : decode cX2_digest 38 = .ok (.iastore, 1) := by decide +kernel
theorem dX2_digest_39 : decode cX2_digest 39 = .ok (.dup, 1) := by decide +kernel
theorem dX2_digest_40 : decode cX2_digest 40 = .ok (.iconst 4, 1) := by decide +kernel
theorem dX2_digest_41 : decode cX2_digest 41 = .ok (.aload_n 0, 1) := by decide +kernel
theorem dX2_digest_42 : decode cX2_digest 42 = .ok (.getfield 13, 3) := by decide +kernel
theorem dX2_digest_45 : decode cX2_digest 45 = .ok (.aload_n 0, 1) := by decide +kernel
theorem dX2_digest_46 : decode cX2_digest 46 = .ok (.getfield 22, 3) := by decide +kernel
theorem dX2_digest_49 : decode cX2_digest 49 = .ok (.iconst 0, 1) := by decide +kernel
theorem dX2_digest_50 : decode cX2_digest 50 = .ok (.iaload, 1) := by decide +kernel
theorem dX2_digest_51 : decode cX2_digest 51 = .ok (.bipush 12, 2) := by decide +kernel
theorem dX2_digest_53 : decode cX2_digest 53 = .ok (.irem, 1) := by decide +kernel
theorem dX2_digest_54 : decode cX2_digest 54 = .ok (.iaload, 1) := by decide +kernel
theorem dX2_digest_55 : decode cX2_digest 55 = .ok (.iastore, 1) := by decide +kernel
theorem dX2_digest_56 : decode cX2_digest 56 = .ok (.dup, 1) := by decide +kernel
theorem dX2_digest_57 : decode cX2_digest 57 = .ok (.iconst 5, 1) := by decide +kernel
theorem dX2_digest_58 : decode cX2_digest 58 = .ok (.aload_n 0, 1) := by decide +kernel
theorem dX2_digest_59 : decode cX2_digest 59 = .ok (.invokevirtual 108, 3) := by decide +kernel
theorem dX2_digest_62 : decode cX2_digest 62 = .ok (.iastore, 1) := by decide +kernel
theorem dX2_digest_63 : decode cX2_digest 63 = .ok (.dup, 1) := by decide +kernel
theorem dX2_digest_64 : decode cX2_digest 64 = .ok (.bipush 6, 2) := by decide +kernel
theorem dX2_digest_66 : decode cX2_digest 66 = .ok (.aload_n 0, 1) := by decide +kernel
theorem dX2_digest_67 : decode cX2_digest 67 = .ok (.getfield 22, 3) := by decide +kernel
theorem dX2_digest_70 : decode cX2_digest 70 = .ok (.iconst 1, 1) := by decide +kernel
theorem dX2_digest_71 : decode cX2_digest 71 = .ok (.iaload, 1) := by decide +kernel
theorem dX2_digest_72 : decode cX2_digest 72 = .ok (.iastore, 1) := by decide +kernel
theorem dX2_digest_73 : decode cX2_digest 73 = .ok (.dup, 1) := by decide +kernel
theorem dX2_digest_74 : decode cX2_digest 74 = .ok (.bipush 7, 2) := by decide +kernel
theorem dX2_digest_76 : decode cX2_digest 76 = .ok (.aload_n 0, 1) := by decide +kernel
theorem dX2_digest_77 : decode cX2_digest 77 = .ok (.iconst 0, 1) := by decide +kernel
theorem dX2_digest_78 : decode cX2_digest 78 = .ok (.invokevirtual 72, 3) := by decide +kernel
theorem dX2_digest_81 : decode cX2_digest 81 = .ok (.iastore, 1) := by decide +kernel
theorem dX2_digest_82 : decode cX2_digest 82 = .ok (.dup, 1) := by decide +kernel
theorem dX2_digest_83 : decode cX2_digest 83 = .ok (.bipush 8, 2) := by decide +kernel
theorem dX2_digest_85 : decode cX2_digest 85 = .ok (.aload_n 0, 1) := by decide +kernel
theorem dX2_digest_86 : decode cX2_digest 86 = .ok (.iconst 0, 1) := by decide +kernel
theorem dX2_digest_87 : decode cX2_digest 87 = .ok (.invokevirtual 121, 3) := by decide +kernel
theorem dX2_digest_90 : decode cX2_digest 90 = .ok (.iastore, 1) := by decide +kernel
theorem dX2_digest_91 : decode cX2_digest 91 = .ok (.dup, 1) := by decide +kernel
theorem dX2_digest_92 : decode cX2_digest 92 = .ok (.bipush 9, 2) := by decide +kernel
theorem dX2_digest_94 : decode cX2_digest 94 = .ok (.aload_n 0, 1) := by decide +kernel
theorem dX2_digest_95 : decode cX2_digest 95 = .ok (.invokevirtual 137, 3) := by decide +kernel
theorem dX2_digest_98 : decode cX2_digest 98 = .ok (.iastore, 1) := by decide +kernel
theorem dX2_digest_99 : decode cX2_digest 99 = .ok (.dup, 1) := by decide +kernel
theorem dX2_digest_100 : decode cX2_digest 100 = .ok (.bipush 10, 2) := by decide +kernel
theorem dX2_digest_102 : decode cX2_digest 102 = .ok (.aload_n 0, 1) := by decide +kernel
theorem dX2_digest_103 : decode cX2_digest 103 = .ok (.bipush 12, 2) := by decide +kernel
theorem dX2_digest_105 : decode cX2_digest 105 = .ok (.invokevirtual 140, 3) := by decide +kernel
theorem dX2_digest_108 : decode cX2_digest 108 = .ok (.iastore, 1) := by decide +kernel
theorem dX2_digest_109 : decode cX2_digest 109 = .ok (.astore_n 1, 1) := by decide +kernel
theorem dX2_digest_110 : decode cX2_digest 110 = .ok (.ldc2_w 143, 3) := by decide +kernel
theorem dX2_digest_113 : decode cX2_digest 113 = .ok (.lstore_n 2, 1) := by decide +kernel
theorem dX2_digest_114 : decode cX2_digest 114 = .ok (.aload_n 1, 1) := by decide +kernel
theorem dX2_digest_115 : decode cX2_digest 115 = .ok (.astore 4, 2) := by decide +kernel
theorem dX2_digest_117 : decode cX2_digest 117 = .ok (.aload 4, 2) := by decide +kernel
theorem dX2_digest_119 : decode cX2_digest 119 = .ok (.arraylength, 1) := by decide +kernel
theorem dX2_digest_120 : decode cX2_digest 120 = .ok (.istore 5, 2) := by decide +kernel
theorem dX2_digest_122 : decode cX2_digest 122 = .ok (.iconst 0, 1) := by decide +kernel
theorem dX2_digest_123 : decode cX2_digest 123 = .ok (.istore 6, 2) := by decide +kernel
theorem dX2_digest_125 : decode cX2_digest 125 = .ok (.iload 6, 2) := by decide +kernel
theorem dX2_digest_127 : decode cX2_digest 127 = .ok (.iload 5, 2) := by decide +kernel
theorem dX2_digest_129 : decode cX2_digest 129 = .ok (.if_icmp .ge 26, 3) := by decide +kernel
theorem dX2_digest_132 : decode cX2_digest 132 = .ok (.aload 4, 2) := by decide +kernel
theorem dX2_digest_134 : decode cX2_digest 134 = .ok (.iload 6, 2) := by decide +kernel
theorem dX2_digest_136 : decode cX2_digest 136 = .ok (.iaload, 1) := by decide +kernel
theorem dX2_digest_137 : decode cX2_digest 137 = .ok (.istore 7, 2) := by decide +kernel
theorem dX2_digest_139 : decode cX2_digest 139 = .ok (.lload_n 2, 1) := by decide +kernel
theorem dX2_digest_140 : decode cX2_digest 140 = .ok (.ldc2_w 145, 3) := by decide +kernel
theorem dX2_digest_143 : decode cX2_digest 143 = .ok (.lmul, 1) := by decide +kernel
theorem dX2_digest_144 : decode cX2_digest 144 = .ok (.iload 7, 2) := by decide +kernel
theorem dX2_digest_146 : decode cX2_digest 146 = .ok (.i2l, 1) := by decide +kernel
theorem dX2_digest_147 : decode cX2_digest 147 = .ok (.ladd, 1) := by decide +kernel
theorem dX2_digest_148 : decode cX2_digest 148 = .ok (.lstore_n 2, 1) := by decide +kernel
theorem dX2_digest_149 : decode cX2_digest 149 = .ok (.iinc 6 1, 3) := by decide +kernel
theorem dX2_digest_152 : decode cX2_digest 152 = .ok (.goto (-27), 3) := by decide +kernel
theorem dX2_digest_155 : decode cX2_digest 155 = .ok (.iconst 0, 1) := by decide +kernel
theorem dX2_digest_156 : decode cX2_digest 156 = .ok (.istore 4, 2) := by decide +kernel
theorem dX2_digest_158 : decode cX2_digest 158 = .ok (.iload 4, 2) := by decide +kernel
theorem dX2_digest_160 : decode cX2_digest 160 = .ok (.aload_n 0, 1) := by decide +kernel
theorem dX2_digest_161 : decode cX2_digest 161 = .ok (.getfield 35, 3) := by decide +kernel
theorem dX2_digest_164 : decode cX2_digest 164 = .ok (.if_icmp .ge 23, 3) := by decide +kernel
theorem dX2_digest_167 : decode cX2_digest 167 = .ok (.lload_n 2, 1) := by decide +kernel
theorem dX2_digest_168 : decode cX2_digest 168 = .ok (.ldc2_w 145, 3) := by decide +kernel
theorem dX2_digest_171 : decode cX2_digest 171 = .ok (.lmul, 1) := by decide +kernel
theorem dX2_digest_172 : decode cX2_digest 172 = .ok (.aload_n 0, 1) := by decide +kernel
theorem dX2_digest_173 : decode cX2_digest 173 = .ok (.iload 4, 2) := by decide +kernel
theorem dX2_digest_175 : decode cX2_digest 175 = .ok (.invokevirtual 69, 3) := by decide +kernel
theorem dX2_digest_178 : decode cX2_digest 178 = .ok (.i2l, 1) := by decide +kernel
theorem dX2_digest_179 : decode cX2_digest 179 = .ok (.ladd, 1) := by decide +kernel
theorem dX2_digest_180 : decode cX2_digest 180 = .ok (.lstore_n 2, 1) := by decide +kernel
theorem dX2_digest_181 : decode cX2_digest 181 = .ok (.iinc 4 1, 3) := by decide +kernel
theorem dX2_digest_184 : decode cX2_digest 184 = .ok (.goto (-26), 3) := by decide +kernel
theorem dX2_digest_187 : decode cX2_digest 187 = .ok (.bipush 16, 2) := by decide +kernel
theorem dX2_digest_189 : decode cX2_digest 189 = .ok (.newarray .int, 2) := by decide +kernel
theorem dX2_digest_191 : decode cX2_digest 191 = .ok (.astore 4, 2) := by decide +kernel
theorem dX2_digest_193 : decode cX2_digest 193 = .ok (.aload_n 0, 1) := by decide +kernel
theorem dX2_digest_194 : decode cX2_digest 194 = .ok (.invokevirtual 124, 3) := by decide +kernel
theorem dX2_digest_197 : decode cX2_digest 197 = .ok (.aload_n 0, 1) := by decide +kernel
theorem dX2_digest_198 : decode cX2_digest 198 = .ok (.sipush 200, 3) := by decide +kernel
theorem dX2_digest_201 : decode cX2_digest 201 = .ok (.invokevirtual 95, 3) := by decide +kernel
theorem dX2_digest_204 : decode cX2_digest 204 = .ok (.iconst 0, 1) := by decide +kernel
theorem dX2_digest_205 : decode cX2_digest 205 = .ok (.istore 5, 2) := by decide +kernel
theorem dX2_digest_207 : decode cX2_digest 207 = .ok (.iload 5, 2) := by decide +kernel
theorem dX2_digest_209 : decode cX2_digest 209 = .ok (.aload_n 0, 1) := by decide +kernel
theorem dX2_digest_210 : decode cX2_digest 210 = .ok (.getfield 42, 3) := by decide +kernel
theorem dX2_digest_213 : decode cX2_digest 213 = .ok (.if_icmp .ge 24, 3) := by decide +kernel
theorem dX2_digest_216 : decode cX2_digest 216 = .ok (.aload 4, 2) := by decide +kernel
theorem dX2_digest_218 : decode cX2_digest 218 = .ok (.iload 5, 2) := by decide +kernel
theorem dX2_digest_220 : decode cX2_digest 220 = .ok (.aload_n 0, 1) := by decide +kernel
theorem dX2_digest_221 : decode cX2_digest 221 = .ok (.getfield 22, 3) := by decide +kernel
theorem dX2_digest_224 : decode cX2_digest 224 = .ok (.bipush 19, 2) := by decide +kernel
theorem dX2_digest_226 : decode cX2_digest 226 = .ok (.iload 5, 2) := by decide +kernel
theorem dX2_digest_228 : decode cX2_digest 228 = .ok (.iadd, 1) := by decide +kernel
theorem dX2_digest_229 : decode cX2_digest 229 = .ok (.iaload, 1) := by decide +kernel
theorem dX2_digest_230 : decode cX2_digest 230 = .ok (.iastore, 1) := by decide +kernel
theorem dX2_digest_231 : decode cX2_digest 231 = .ok (.iinc 5 1, 3) := by decide +kernel
theorem dX2_digest_234 : decode cX2_digest 234 = .ok (.goto (-27), 3) := by decide +kernel
theorem dX2_digest_237 : decode cX2_digest 237 = .ok (.aload_n 0, 1) := by decide +kernel
theorem dX2_digest_238 : decode cX2_digest 238 = .ok (.invokevirtual 127, 3) := by decide +kernel
theorem dX2_digest_241 : decode cX2_digest 241 = .ok (.iconst 0, 1) := by decide +kernel
theorem dX2_digest_242 : decode cX2_digest 242 = .ok (.istore 5, 2) := by decide +kernel
theorem dX2_digest_244 : decode cX2_digest 244 = .ok (.iload 5, 2) := by decide +kernel
theorem dX2_digest_246 : decode cX2_digest 246 = .ok (.aload_n 0, 1) := by decide +kernel
theorem dX2_digest_247 : decode cX2_digest 247 = .ok (.getfield 42, 3) := by decide +kernel
theorem dX2_digest_250 : decode cX2_digest 250 = .ok (.if_icmp .ge 122, 3) := by decide +kernel
theorem dX2_digest_253 : decode cX2_digest 253 = .ok (.bipush 6, 2) := by decide +kernel
theorem dX2_digest_255 : decode cX2_digest 255 = .ok (.newarray .int, 2) := by decide +kernel
theorem dX2_digest_257 : decode cX2_digest 257 = .ok (.dup, 1) := by decide +kernel
theorem dX2_digest_258 : decode cX2_digest 258 = .ok (.iconst 0, 1) := by decide +kernel
theorem dX2_digest_259 : decode cX2_digest 259 = .ok (.aload_n 0, 1) := by decide +kernel
theorem dX2_digest_260 : decode cX2_digest 260 = .ok (.getfield 22, 3) := by decide +kernel
theorem dX2_digest_263 : decode cX2_digest 263 = .ok (.bipush 35, 2) := by decide +kernel
theorem dX2_digest_265 : decode cX2_digest 265 = .ok (.iload 5, 2) := by decide +kernel
theorem dX2_digest_267 : decode cX2_digest 267 = .ok (.iadd, 1) := by decide +kernel
theorem dX2_digest_268 : decode cX2_digest 268 = .ok (.iaload, 1) := by decide +kernel
theorem dX2_digest_269 : decode cX2_digest 269 = .ok (.iastore, 1) := by decide +kernel
theorem dX2_digest_270 : decode cX2_digest 270 = .ok (.dup, 1) := by decide +kernel
theorem dX2_digest_271 : decode cX2_digest 271 = .ok (.iconst 1, 1) := by decide +kernel
theorem dX2_digest_272 : decode cX2_digest 272 = .ok (.aload_n 0, 1) := by decide +kernel
theorem dX2_digest_273 : decode cX2_digest 273 = .ok (.getfield 22, 3) := by decide +kernel
theorem dX2_digest_276 : decode cX2_digest 276 = .ok (.iconst 3, 1) := by decide +kernel
theorem dX2_digest_277 : decode cX2_digest 277 = .ok (.iload 5, 2) := by decide +kernel
theorem dX2_digest_279 : decode cX2_digest 279 = .ok (.iadd, 1) := by decide +kernel
theorem dX2_digest_280 : decode cX2_digest 280 = .ok (.iaload, 1) := by decide +kernel
theorem dX2_digest_281 : decode cX2_digest 281 = .ok (.iastore, 1) := by decide +kernel
theorem dX2_digest_282 : decode cX2_digest 282 = .ok (.dup, 1) := by decide +kernel
theorem dX2_digest_283 : decode cX2_digest 283 = .ok (.iconst 2, 1) := by decide +kernel
theorem dX2_digest_284 : decode cX2_digest 284 = .ok (.aload_n 0, 1) := by decide +kernel
theorem dX2_digest_285 : decode cX2_digest 285 = .ok (.getfield 19, 3) := by decide +kernel
theorem dX2_digest_288 : decode cX2_digest 288 = .ok (.iload 5, 2) := by decide +kernel
theorem dX2_digest_290 : decode cX2_digest 290 = .ok (.iaload, 1) := by decide +kernel
theorem dX2_digest_291 : decode cX2_digest 291 = .ok (.iastore, 1) := by decide +kernel
theorem dX2_digest_292 : decode cX2_digest 292 = .ok (.dup, 1) := by decide +kernel
theorem dX2_digest_293 : decode cX2_digest 293 = .ok (.iconst 3, 1) := by decide +kernel
theorem dX2_digest_294 : decode cX2_digest 294 = .ok (.aload_n 0, 1) := by decide +kernel
theorem dX2_digest_295 : decode cX2_digest 295 = .ok (.getfield 22, 3) := by decide +kernel
theorem dX2_digest_298 : decode cX2_digest 298 = .ok (.bipush 19, 2) := by decide +kernel
theorem dX2_digest_300 : decode cX2_digest 300 = .ok (.iload 5, 2) := by decide +kernel
theorem dX2_digest_302 : decode cX2_digest 302 = .ok (.iadd, 1) := by decide +kernel
theorem dX2_digest_303 : decode cX2_digest 303 = .ok (.iaload, 1) := by decide +kernel
theorem dX2_digest_304 : decode cX2_digest 304 = .ok (.iastore, 1) := by decide +kernel
theorem dX2_digest_305 : decode cX2_digest 305 = .ok (.dup, 1) := by decide +kernel
theorem dX2_digest_306 : decode cX2_digest 306 = .ok (.iconst 4, 1) := by decide +kernel
theorem dX2_digest_307 : decode cX2_digest 307 = .ok (.aload_n 0, 1) := by decide +kernel
theorem dX2_digest_308 : decode cX2_digest 308 = .ok (.iload 5, 2) := by decide +kernel
theorem dX2_digest_310 : decode cX2_digest 310 = .ok (.invokevirtual 112, 3) := by decide +kernel
theorem dX2_digest_313 : decode cX2_digest 313 = .ok (.iastore, 1) := by decide +kernel
theorem dX2_digest_314 : decode cX2_digest 314 = .ok (.dup, 1) := by decide +kernel
theorem dX2_digest_315 : decode cX2_digest 315 = .ok (.iconst 5, 1) := by decide +kernel
theorem dX2_digest_316 : decode cX2_digest 316 = .ok (.aload 4, 2) := by decide +kernel
theorem dX2_digest_318 : decode cX2_digest 318 = .ok (.iload 5, 2) := by decide +kernel
theorem dX2_digest_320 : decode cX2_digest 320 = .ok (.iaload, 1) := by decide +kernel
theorem dX2_digest_321 : decode cX2_digest 321 = .ok (.iastore, 1) := by decide +kernel
theorem dX2_digest_322 : decode cX2_digest 322 = .ok (.astore 6, 2) := by decide +kernel
theorem dX2_digest_324 : decode cX2_digest 324 = .ok (.aload 6, 2) := by decide +kernel
theorem dX2_digest_326 : decode cX2_digest 326 = .ok (.astore 7, 2) := by decide +kernel
theorem dX2_digest_328 : decode cX2_digest 328 = .ok (.aload 7, 2) := by decide +kernel
theorem dX2_digest_330 : decode cX2_digest 330 = .ok (.arraylength, 1) := by decide +kernel
theorem dX2_digest_331 : decode cX2_digest 331 = .ok (.istore 8, 2) := by decide +kernel
theorem dX2_digest_333 : decode cX2_digest 333 = .ok (.iconst 0, 1) := by decide +kernel
theorem dX2_digest_334 : decode cX2_digest 334 = .ok (.istore 9, 2) := by decide +kernel
theorem dX2_digest_336 : decode cX2_digest 336 = .ok (.iload 9, 2) := by decide +kernel
theorem dX2_digest_338 : decode cX2_digest 338 = .ok (.iload 8, 2) := by decide +kernel
theorem dX2_digest_340 : decode cX2_digest 340 = .ok (.if_icmp .ge 26, 3) := by decide +kernel
theorem dX2_digest_343 : decode cX2_digest 343 = .ok (.aload 7, 2) := by decide +kernel
theorem dX2_digest_345 : decode cX2_digest 345 = .ok (.iload 9, 2) := by decide +kernel
theorem dX2_digest_347 : decode cX2_digest 347 = .ok (.iaload, 1) := by decide +kernel
theorem dX2_digest_348 : decode cX2_digest 348 = .ok (.istore 10, 2) := by decide +kernel
theorem dX2_digest_350 : decode cX2_digest 350 = .ok (.lload_n 2, 1) := by decide +kernel
theorem dX2_digest_351 : decode cX2_digest 351 = .ok (.ldc2_w 145, 3) := by decide +kernel
theorem dX2_digest_354 : decode cX2_digest 354 = .ok (.lmul, 1) := by decide +kernel
theorem dX2_digest_355 : decode cX2_digest 355 = .ok (.iload 10, 2) := by decide +kernel
theorem dX2_digest_357 : decode cX2_digest 357 = .ok (.i2l, 1) := by decide +kernel
theorem dX2_digest_358 : decode cX2_digest 358 = .ok (.ladd, 1) := by decide +kernel
theorem dX2_digest_359 : decode cX2_digest 359 = .ok (.lstore_n 2, 1) := by decide +kernel
theorem dX2_digest_360 : decode cX2_digest 360 = .ok (.iinc 9 1, 3) := by decide +kernel
theorem dX2_digest_363 : decode cX2_digest 363 = .ok (.goto (-27), 3) := by decide +kernel
theorem dX2_digest_366 : decode cX2_digest 366 = .ok (.iinc 5 1, 3) := by decide +kernel
theorem dX2_digest_369 : decode cX2_digest 369 = .ok (.goto (-125), 3) := by decide +kernel
theorem dX2_digest_372 : decode cX2_digest 372 = .ok (.iconst 0, 1) := by decide +kernel
theorem dX2_digest_373 : decode cX2_digest 373 = .ok (.istore 5, 2) := by decide +kernel
theorem dX2_digest_375 : decode cX2_digest 375 = .ok (.iload 5, 2) := by decide +kernel
theorem dX2_digest_377 : decode cX2_digest 377 = .ok (.bipush 8, 2) := by decide +kernel
theorem dX2_digest_379 : decode cX2_digest 379 = .ok (.if_icmp .ge 23, 3) := by decide +kernel
theorem dX2_digest_382 : decode cX2_digest 382 = .ok (.lload_n 2, 1) := by decide +kernel
theorem dX2_digest_383 : decode cX2_digest 383 = .ok (.ldc2_w 145, 3) := by decide +kernel
theorem dX2_digest_386 : decode cX2_digest 386 = .ok (.lmul, 1) := by decide +kernel
theorem dX2_digest_387 : decode cX2_digest 387 = .ok (.aload_n 0, 1) := by decide +kernel
theorem dX2_digest_388 : decode cX2_digest 388 = .ok (.iload 5, 2) := by decide +kernel
theorem dX2_digest_390 : decode cX2_digest 390 = .ok (.invokevirtual 115, 3) := by decide +kernel
theorem dX2_digest_393 : decode cX2_digest 393 = .ok (.i2l, 1) := by decide +kernel
theorem dX2_digest_394 : decode cX2_digest 394 = .ok (.ladd, 1) := by decide +kernel
theorem dX2_digest_395 : decode cX2_digest 395 = .ok (.lstore_n 2, 1) := by decide +kernel
theorem dX2_digest_396 : decode cX2_digest 396 = .ok (.iinc 5 1, 3) := by decide +kernel
theorem dX2_digest_399 : decode cX2_digest 399 = .ok (.goto (-24), 3) := by decide +kernel
theorem dX2_digest_402 : decode cX2_digest 402 = .ok (.lload_n 2, 1) := by decide +kernel
theorem dX2_digest_403 : decode cX2_digest 403 = .ok (.lreturn, 1) := by decide +kernel
theorem dJ9_floorMod_7cf53_0 : decode cJ9_floorMod_7cf53 0 = .ok (.iload_n 0, 1) := by decide +kernel
theorem dJ9_floorMod_7cf53_1 : decode cJ9_floorMod_7cf53 1 = .ok (.iload_n 1, 1) := by decide +kernel
theorem dJ9_floorMod_7cf53_2 : decode cJ9_floorMod_7cf53 2 = .ok (.irem, 1) := by decide +kernel
theorem dJ9_floorMod_7cf53_3 : decode cJ9_floorMod_7cf53 3 = .ok (.istore_n 2, 1) := by decide +kernel
theorem dJ9_floorMod_7cf53_4 : decode cJ9_floorMod_7cf53 4 = .ok (.iload_n 0, 1) := by decide +kernel
theorem dJ9_floorMod_7cf53_5 : decode cJ9_floorMod_7cf53 5 = .ok (.iload_n 1, 1) := by decide +kernel
theorem dJ9_floorMod_7cf53_6 : decode cJ9_floorMod_7cf53 6 = .ok (.ixor, 1) := by decide +kernel
theorem dJ9_floorMod_7cf53_7 : decode cJ9_floorMod_7cf53 7 = .ok (.ifCond .ge 11, 3) := by decide +kernel
theorem dJ9_floorMod_7cf53_10 : decode cJ9_floorMod_7cf53 10 = .ok (.iload_n 2, 1) := by decide +kernel
theorem dJ9_floorMod_7cf53_11 : decode cJ9_floorMod_7cf53 11 = .ok (.ifCond .eq 7, 3) := by decide +kernel
theorem dJ9_floorMod_7cf53_14 : decode cJ9_floorMod_7cf53 14 = .ok (.iload_n 2, 1) := by decide +kernel
theorem dJ9_floorMod_7cf53_15 : decode cJ9_floorMod_7cf53 15 = .ok (.iload_n 1, 1) := by decide +kernel
theorem dJ9_floorMod_7cf53_16 : decode cJ9_floorMod_7cf53 16 = .ok (.iadd, 1) := by decide +kernel
theorem dJ9_floorMod_7cf53_17 : decode cJ9_floorMod_7cf53 17 = .ok (.ireturn, 1) := by decide +kernel
theorem dJ9_floorMod_7cf53_18 : decode cJ9_floorMod_7cf53 18 = .ok (.iload_n 2, 1) := by decide +kernel
theorem dJ9_floorMod_7cf53_19 : decode cJ9_floorMod_7cf53 19 = .ok (.ireturn, 1) := by decide +kernel
theorem dJ9_max_7cf53_0 : decode cJ9_max_7cf53 0 = .ok (.iload_n 0, 1) := by decide +kernel
theorem dJ9_max_7cf53_1 : decode cJ9_max_7cf53 1 = .ok (.iload_n 1, 1) := by decide +kernel
theorem dJ9_max_7cf53_2 : decode cJ9_max_7cf53 2 = .ok (.if_icmp .lt 7, 3) := by decide +kernel
theorem dJ9_max_7cf53_5 : decode cJ9_max_7cf53 5 = .ok (.iload_n 0, 1) := by decide +kernel
theorem dJ9_max_7cf53_6 : decode cJ9_max_7cf53 6 = .ok (.goto 4, 3) := by decide +kernel
theorem dJ9_max_7cf53_9 : decode cJ9_max_7cf53 9 = .ok (.iload_n 1, 1) := by decide +kernel
theorem dJ9_max_7cf53_10 : decode cJ9_max_7cf53 10 = .ok (.ireturn, 1) := by decide +kernel
theorem dJ9_min_7cf53_0 : decode cJ9_min_7cf53 0 = .ok (.iload_n 0, 1) := by decide +kernel
theorem dJ9_min_7cf53_1 : decode cJ9_min_7cf53 1 = .ok (.iload_n 1, 1) := by decide +kernel
theorem dJ9_min_7cf53_2 : decode cJ9_min_7cf53 2 = .ok (.if_icmp .gt 7, 3) := by decide +kernel
theorem dJ9_min_7cf53_5 : decode cJ9_min_7cf53 5 = .ok (.iload_n 0, 1) := by decide +kernel
theorem dJ9_min_7cf53_6 : decode cJ9_min_7cf53 6 = .ok (.goto 4, 3) := by decide +kernel
theorem dJ9_min_7cf53_9 : decode cJ9_min_7cf53 9 = .ok (.iload_n 1, 1) := by decide +kernel
theorem dJ9_min_7cf53_10 : decode cJ9_min_7cf53 10 = .ok (.ireturn, 1) := by decide +kernel
set_option maxRecDepth 20000 in
theorem ggL_addStone_X1_addStone : GoodIn wsL_addStone wsX1_addStone := goodIn_ca (goodIn_ca (goodIn_r _ [7, 8, 9, 10, 11, 12, 13, 14, 15, 16, 17, 18, 19, 20, 21, 22, 23, 24, 25, 26, 27, 28, 29, 30, 31, 32, 33, 34, 35, 36, 37, 38] (by decide +kernel) (by decide +kernel)) (goodIn_sub (fun _ h => List.mem_cons_of_mem _ (List.mem_append_left _ (List.mem_append_right _ h))) (by decide +kernel))) (goodIn_sub (fun _ h => List.mem_cons_of_mem _ (List.mem_append_right _ h)) (by decide +kernel))
set_option maxRecDepth 20000 in
theorem gL_addStone_X1_addStone : GoodIn wsL_addStone (wsV RL 7 RX1 yX1_addStone wsX1_addStone) := goodIn_app (goodIn_of _ (by decide +kernel)) ggL_addStone_X1_addStone
theorem dL_addStone_0 : decode cL_addStone 0 = .ok (.aload_n 2, 1) := by decide +kernel
theorem dL_addStone_1 : decode cL_addStone 1 = .ok (.iconst 0, 1) := by decide +kernel
theorem dL_addStone_2 : decode cL_addStone 2 = .ok (.aload_n 0, 1) := by decide +kernel
theorem dL_addStone_3 : decode cL_addStone 3 = .ok (.iload_n 1, 1) := by decide +kernel
theorem dL_addStone_4 : decode cL_addStone 4 = .ok (.invokevirtual 7, 3) := by decide +kernel
theorem dL_addStone_7 : decode cL_addStone 7 = .ok (.i2l, 1) := by decide +kernel
theorem dL_addStone_8 : decode cL_addStone 8 = .ok (.lastore, 1) := by decide +kernel
theorem dL_addStone_9 : decode cL_addStone 9 = .ok (.goto 9, 3) := by decide +kernel
theorem dL_addStone_12 : decode cL_addStone 12 = .ok (.astore_n 3, 1) := by decide +kernel
theorem dL_addStone_13 : decode cL_addStone 13 = .ok (.iconst 1, 1) := by decide +kernel
theorem dL_addStone_14 : decode cL_addStone 14 = .ok (.ireturn, 1) := by decide +kernel
theorem dL_addStone_15 : decode cL_addStone 15 = .ok (.astore_n 3, 1) := by decide +kernel
theorem dL_addStone_16 : decode cL_addStone 16 = .ok (.iconst 2, 1) := by decide +kernel
theorem dL_addStone_17 : decode cL_addStone 17 = .ok (.ireturn, 1) := by decide +kernel
theorem dL_addStone_18 : decode cL_addStone 18 = .ok (.iconst 0, 1) := by decide +kernel
theorem dL_addStone_19 : decode cL_addStone 19 = .ok (.ireturn, 1) := by decide +kernel
set_option maxRecDepth 20000 in
theorem ggL_setWind_X1_setWind : GoodIn wsL_setWind wsX1_setWind := goodIn_ca (goodIn_ca (goodIn_r _ [7, 8, 9, 10, 11, 12, 13, 14, 15, 16, 17, 18, 19, 20, 21, 22, 23, 24, 25, 26, 27, 28, 29, 30] (by decide +kernel) (by decide +kernel)) (goodIn_sub (fun _ h => List.mem_cons_of_mem _ (List.mem_append_left _ (List.mem_append_right _ h))) (by decide +kernel))) (goodIn_sub (fun _ h => List.mem_cons_of_mem _ (List.mem_append_right _ h)) (by decide +kernel))
set_option maxRecDepth 20000 in
theorem gL_setWind_X1_setWind : GoodIn wsL_setWind (wsV RL 17 RX1 yX1_setWind wsX1_setWind) := goodIn_app (goodIn_of _ (by decide +kernel)) ggL_setWind_X1_setWind
theorem dL_setWind_0 : decode cL_setWind 0 = .ok (.aload_n 3, 1) := by decide +kernel
theorem dL_setWind_1 : decode cL_setWind 1 = .ok (.iconst 0, 1) := by decide +kernel
theorem dL_setWind_2 : decode cL_setWind 2 = .ok (.aload_n 0, 1) := by decide +kernel
theorem dL_setWind_3 : decode cL_setWind 3 = .ok (.iload_n 1, 1) := by decide +kernel
theorem dL_setWind_4 : decode cL_setWind 4 = .ok (.iload_n 2, 1) := by decide +kernel
theorem dL_setWind_5 : decode cL_setWind 5 = .ok (.invokevirtual 17, 3) := by decide +kernel
theorem dL_setWind_8 : decode cL_setWind 8 = .ok (.i2l, 1) := by decide +kernel
theorem dL_setWind_9 : decode cL_setWind 9 = .ok (.lastore, 1) := by decide +kernel
theorem dL_setWind_10 : decode cL_setWind 10 = .ok (.goto 11, 3) := by decide +kernel
theorem dL_setWind_13 : decode cL_setWind 13 = .ok (.astore 4, 2) := by decide +kernel
theorem dL_setWind_15 : decode cL_setWind 15 = .ok (.iconst 1, 1) := by decide +kernel
theorem dL_setWind_16 : decode cL_setWind 16 = .ok (.ireturn, 1) := by decide +kernel
theorem dL_setWind_17 : decode cL_setWind 17 = .ok (.astore 4, 2) := by decide +kernel
theorem dL_setWind_19 : decode cL_setWind 19 = .ok (.iconst 2, 1) := by decide +kernel
theorem dL_setWind_20 : decode cL_setWind 20 = .ok (.ireturn, 1) := by decide +kernel
theorem dL_setWind_21 : decode cL_setWind 21 = .ok (.iconst 0, 1) := by decide +kernel
theorem dL_setWind_22 : decode cL_setWind 22 = .ok (.ireturn, 1) := by decide +kernel
set_option maxRecDepth 20000 in
theorem ggL_setRule_X1_setRule : GoodIn wsL_setRule wsX1_setRule := goodIn_ca (goodIn_r _ [6, 7, 8, 9, 5, 10, 11, 12, 13, 14, 15, 16, 17, 18, 19, 20, 21, 22, 23, 24, 25, 26, 27, 28, 29, 30] (by decide +kernel) (by decide +kernel)) (goodIn_sub (fun _ h => List.mem_cons_of_mem _ (List.mem_append_right _ h)) (by decide +kernel))
set_option maxRecDepth 20000 in
theorem gL_setRule_X1_setRule : GoodIn wsL_setRule (wsV RL 23 RX1 yX1_setRule wsX1_setRule) := goodIn_app (goodIn_of _ (by decide +kernel)) ggL_setRule_X1_setRule
theorem dL_setRule_0 : decode cL_setRule 0 = .ok (.aload_n 2, 1) := by decide +kernel
theorem dL_setRule_1 : decode cL_setRule 1 = .ok (.iconst 0, 1) := by decide +kernel
theorem dL_setRule_2 : decode cL_setRule 2 = .ok (.aload_n 0, 1) := by decide +kernel
theorem dL_setRule_3 : decode cL_setRule 3 = .ok (.iload_n 1, 1) := by decide +kernel
theorem dL_setRule_4 : decode cL_setRule 4 = .ok (.invokevirtual 23, 3) := by decide +kernel
theorem dL_setRule_7 : decode cL_setRule 7 = .ok (.i2l, 1) := by decide +kernel
theorem dL_setRule_8 : decode cL_setRule 8 = .ok (.lastore, 1) := by decide +kernel
theorem dL_setRule_9 : decode cL_setRule 9 = .ok (.goto 6, 3) := by decide +kernel
theorem dL_setRule_12 : decode cL_setRule 12 = .ok (.astore_n 3, 1) := by decide +kernel
theorem dL_setRule_13 : decode cL_setRule 13 = .ok (.iconst 1, 1) := by decide +kernel
theorem dL_setRule_14 : decode cL_setRule 14 = .ok (.ireturn, 1) := by decide +kernel
theorem dL_setRule_15 : decode cL_setRule 15 = .ok (.iconst 0, 1) := by decide +kernel
theorem dL_setRule_16 : decode cL_setRule 16 = .ok (.ireturn, 1) := by decide +kernel
set_option maxRecDepth 20000 in
theorem ggL_bring_X1_bring : GoodIn wsL_bring wsX1_bring := goodIn_ca (goodIn_ca (goodIn_r _ [7, 8, 9, 10, 11, 12, 6, 13, 14, 15, 16, 17, 18, 19, 20, 21, 22, 23, 24, 25, 26, 27, 28, 29, 30, 31, 32, 33, 34, 35, 36, 37, 38, 39, 40, 41, 42, 43, 44, 45, 46, 47, 48, 49, 50] (by decide +kernel) (by decide +kernel)) (goodIn_sub (fun _ h => List.mem_cons_of_mem _ (List.mem_append_left _ (List.mem_append_right _ h))) (by decide +kernel))) (goodIn_sub (fun _ h => List.mem_cons_of_mem _ (List.mem_append_right _ h)) (by decide +kernel))
set_option maxRecDepth 20000 in
theorem gL_bring_X1_bring : GoodIn wsL_bring (wsV RL 26 RX1 yX1_bring wsX1_bring) := goodIn_app (goodIn_of _ (by decide +kernel)) ggL_bring_X1_bring
theorem dL_bring_0 : decode cL_bring 0 = .ok (.aload 4, 2) := by decide +kernel
theorem dL_bring_2 : decode cL_bring 2 = .ok (.iconst 0, 1) := by decide +kernel
theorem dL_bring_3 : decode cL_bring 3 = .ok (.aload_n 0, 1) := by decide +kernel
theorem dL_bring_4 : decode cL_bring 4 = .ok (.iload_n 1, 1) := by decide +kernel
theorem dL_bring_5 : decode cL_bring 5 = .ok (.iload_n 2, 1) := by decide +kernel
theorem dL_bring_6 : decode cL_bring 6 = .ok (.iload_n 3, 1) := by decide +kernel
theorem dL_bring_7 : decode cL_bring 7 = .ok (.invokevirtual 26, 3) := by decide +kernel
theorem dL_bring_10 : decode cL_bring 10 = .ok (.i2l, 1) := by decide +kernel
theorem dL_bring_11 : decode cL_bring 11 = .ok (.lastore, 1) := by decide +kernel
theorem dL_bring_12 : decode cL_bring 12 = .ok (.goto 11, 3) := by decide +kernel
theorem dL_bring_15 : decode cL_bring 15 = .ok (.astore 5, 2) := by decide +kernel
theorem dL_bring_17 : decode cL_bring 17 = .ok (.iconst 1, 1) := by decide +kernel
theorem dL_bring_18 : decode cL_bring 18 = .ok (.ireturn, 1) := by decide +kernel
theorem dL_bring_19 : decode cL_bring 19 = .ok (.astore 5, 2) := by decide +kernel
theorem dL_bring_21 : decode cL_bring 21 = .ok (.iconst 2, 1) := by decide +kernel
theorem dL_bring_22 : decode cL_bring 22 = .ok (.ireturn, 1) := by decide +kernel
theorem dL_bring_23 : decode cL_bring 23 = .ok (.iconst 0, 1) := by decide +kernel
theorem dL_bring_24 : decode cL_bring 24 = .ok (.ireturn, 1) := by decide +kernel
set_option maxRecDepth 20000 in
theorem ggL_lift_X1_lift : GoodIn wsL_lift wsX1_lift := goodIn_ca (goodIn_ca (goodIn_r _ [7, 8, 9, 10, 11, 12, 13, 6, 14, 15, 16, 17, 18, 19, 20, 21, 22, 23, 24, 25, 26, 27, 28, 29, 30, 31, 32, 33, 34, 35, 36, 37, 38, 39, 40, 41] (by decide +kernel) (by decide +kernel)) (goodIn_sub (fun _ h => List.mem_cons_of_mem _ (List.mem_append_left _ (List.mem_append_right _ h))) (by decide +kernel))) (goodIn_sub (fun _ h => List.mem_cons_of_mem _ (List.mem_append_right _ h)) (by decide +kernel))
set_option maxRecDepth 20000 in
theorem gL_lift_X1_lift : GoodIn wsL_lift (wsV RL 30 RX1 yX1_lift wsX1_lift) := goodIn_app (goodIn_of _ (by decide +kernel)) ggL_lift_X1_lift
theorem dL_lift_0 : decode cL_lift 0 = .ok (.aload_n 2, 1) := by decide +kernel
theorem dL_lift_1 : decode cL_lift 1 = .ok (.iconst 0, 1) := by decide +kernel
theorem dL_lift_2 : decode cL_lift 2 = .ok (.aload_n 0, 1) := by decide +kernel
theorem dL_lift_3 : decode cL_lift 3 = .ok (.iload_n 1, 1) := by decide +kernel
theorem dL_lift_4 : decode cL_lift 4 = .ok (.invokevirtual 30, 3) := by decide +kernel
theorem dL_lift_7 : decode cL_lift 7 = .ok (.i2l, 1) := by decide +kernel
theorem dL_lift_8 : decode cL_lift 8 = .ok (.lastore, 1) := by decide +kernel
theorem dL_lift_9 : decode cL_lift 9 = .ok (.goto 9, 3) := by decide +kernel
theorem dL_lift_12 : decode cL_lift 12 = .ok (.astore_n 3, 1) := by decide +kernel
theorem dL_lift_13 : decode cL_lift 13 = .ok (.iconst 1, 1) := by decide +kernel
theorem dL_lift_14 : decode cL_lift 14 = .ok (.ireturn, 1) := by decide +kernel
theorem dL_lift_15 : decode cL_lift 15 = .ok (.astore_n 3, 1) := by decide +kernel
theorem dL_lift_16 : decode cL_lift 16 = .ok (.iconst 2, 1) := by decide +kernel
theorem dL_lift_17 : decode cL_lift 17 = .ok (.ireturn, 1) := by decide +kernel
theorem dL_lift_18 : decode cL_lift 18 = .ok (.iconst 0, 1) := by decide +kernel
theorem dL_lift_19 : decode cL_lift 19 = .ok (.ireturn, 1) := by decide +kernel
set_option maxRecDepth 20000 in
theorem ggL_setUntil_X1_setUntil : GoodIn wsL_setUntil wsX1_setUntil := goodIn_ca (goodIn_ca (goodIn_r _ [7, 8, 9, 10, 11, 6, 12, 13, 14, 15, 16, 17, 18, 19, 20, 21, 22, 23, 24, 25, 26, 27, 28, 29, 30, 31, 32, 33, 34, 35, 36, 37] (by decide +kernel) (by decide +kernel)) (goodIn_sub (fun _ h => List.mem_cons_of_mem _ (List.mem_append_left _ (List.mem_append_right _ h))) (by decide +kernel))) (goodIn_sub (fun _ h => List.mem_cons_of_mem _ (List.mem_append_right _ h)) (by decide +kernel))
set_option maxRecDepth 20000 in
theorem gL_setUntil_X1_setUntil : GoodIn wsL_setUntil (wsV RL 33 RX1 yX1_setUntil wsX1_setUntil) := goodIn_app (goodIn_of _ (by decide +kernel)) ggL_setUntil_X1_setUntil
theorem dL_setUntil_0 : decode cL_setUntil 0 = .ok (.aload_n 3, 1) := by decide +kernel
theorem dL_setUntil_1 : decode cL_setUntil 1 = .ok (.iconst 0, 1) := by decide +kernel
theorem dL_setUntil_2 : decode cL_setUntil 2 = .ok (.aload_n 0, 1) := by decide +kernel
theorem dL_setUntil_3 : decode cL_setUntil 3 = .ok (.iload_n 1, 1) := by decide +kernel
theorem dL_setUntil_4 : decode cL_setUntil 4 = .ok (.iload_n 2, 1) := by decide +kernel
theorem dL_setUntil_5 : decode cL_setUntil 5 = .ok (.invokevirtual 33, 3) := by decide +kernel
theorem dL_setUntil_8 : decode cL_setUntil 8 = .ok (.i2l, 1) := by decide +kernel
theorem dL_setUntil_9 : decode cL_setUntil 9 = .ok (.lastore, 1) := by decide +kernel
theorem dL_setUntil_10 : decode cL_setUntil 10 = .ok (.goto 11, 3) := by decide +kernel
theorem dL_setUntil_13 : decode cL_setUntil 13 = .ok (.astore 4, 2) := by decide +kernel
theorem dL_setUntil_15 : decode cL_setUntil 15 = .ok (.iconst 1, 1) := by decide +kernel
theorem dL_setUntil_16 : decode cL_setUntil 16 = .ok (.ireturn, 1) := by decide +kernel
theorem dL_setUntil_17 : decode cL_setUntil 17 = .ok (.astore 4, 2) := by decide +kernel
theorem dL_setUntil_19 : decode cL_setUntil 19 = .ok (.iconst 2, 1) := by decide +kernel
theorem dL_setUntil_20 : decode cL_setUntil 20 = .ok (.ireturn, 1) := by decide +kernel
theorem dL_setUntil_21 : decode cL_setUntil 21 = .ok (.iconst 0, 1) := by decide +kernel
theorem dL_setUntil_22 : decode cL_setUntil 22 = .ok (.ireturn, 1) := by decide +kernel
set_option maxRecDepth 20000 in
theorem ggL_pass_X1_pass : GoodIn wsL_pass wsX1_pass := goodIn_ca (goodIn_r _ [6, 7, 8, 9, 5, 10, 11, 12, 13, 14, 15, 16, 17, 18, 19, 20, 21, 22, 23, 24, 25, 26, 27, 28, 29, 30, 31, 32, 33, 34, 35, 36, 37, 38, 39, 40, 41, 42, 43, 44, 45, 46, 47, 48, 49, 50, 51, 52, 53, 54, 55, 56, 57, 58, 59, 60, 61, 62, 63, 64, 65, 66, 67, 68, 69, 70, 71, 72, 73, 74, 75, 76, 77, 78, 79, 80, 81, 82, 83, 84, 85, 86, 87, 88, 89, 90, 91, 92, 93, 94, 95, 96, 97, 98] (by decide +kernel) (by decide +kernel)) (goodIn_sub (fun _ h => List.mem_cons_of_mem _ (List.mem_append_right _ h)) (by decide +kernel))
set_option maxRecDepth 20000 in
theorem gL_pass_X1_pass : GoodIn wsL_pass (wsV RL 36 RX1 yX1_pass wsX1_pass) := goodIn_app (goodIn_of _ (by decide +kernel)) ggL_pass_X1_pass
theorem dL_pass_0 : decode cL_pass 0 = .ok (.aload_n 2, 1) := by decide +kernel
theorem dL_pass_1 : decode cL_pass 1 = .ok (.iconst 0, 1) := by decide +kernel
theorem dL_pass_2 : decode cL_pass 2 = .ok (.aload_n 0, 1) := by decide +kernel
theorem dL_pass_3 : decode cL_pass 3 = .ok (.iload_n 1, 1) := by decide +kernel
theorem dL_pass_4 : decode cL_pass 4 = .ok (.invokevirtual 36, 3) := by decide +kernel
theorem dL_pass_7 : decode cL_pass 7 = .ok (.i2l, 1) := by decide +kernel
theorem dL_pass_8 : decode cL_pass 8 = .ok (.lastore, 1) := by decide +kernel
theorem dL_pass_9 : decode cL_pass 9 = .ok (.goto 6, 3) := by decide +kernel
theorem dL_pass_12 : decode cL_pass 12 = .ok (.astore_n 3, 1) := by decide +kernel
theorem dL_pass_13 : decode cL_pass 13 = .ok (.iconst 1, 1) := by decide +kernel
theorem dL_pass_14 : decode cL_pass 14 = .ok (.ireturn, 1) := by decide +kernel
theorem dL_pass_15 : decode cL_pass 15 = .ok (.iconst 0, 1) := by decide +kernel
theorem dL_pass_16 : decode cL_pass 16 = .ok (.ireturn, 1) := by decide +kernel
set_option maxRecDepth 20000 in
theorem ggL_sackOn_X1_sackOn : GoodIn wsL_sackOn wsX1_sackOn := goodIn_ca (goodIn_r _ [6, 7, 8, 9, 10, 11, 12, 13, 14, 15, 16, 17, 18, 19, 20, 21, 22, 23, 24, 25, 26, 27] (by decide +kernel) (by decide +kernel)) (goodIn_sub (fun _ h => List.mem_cons_of_mem _ (List.mem_append_right _ h)) (by decide +kernel))
set_option maxRecDepth 20000 in
theorem gL_sackOn_X1_sackOn : GoodIn wsL_sackOn (wsV RL 39 RX1 yX1_sackOn wsX1_sackOn) := goodIn_app (goodIn_of _ (by decide +kernel)) ggL_sackOn_X1_sackOn
theorem dL_sackOn_0 : decode cL_sackOn 0 = .ok (.aload_n 2, 1) := by decide +kernel
theorem dL_sackOn_1 : decode cL_sackOn 1 = .ok (.iconst 0, 1) := by decide +kernel
theorem dL_sackOn_2 : decode cL_sackOn 2 = .ok (.aload_n 0, 1) := by decide +kernel
theorem dL_sackOn_3 : decode cL_sackOn 3 = .ok (.iload_n 1, 1) := by decide +kernel
theorem dL_sackOn_4 : decode cL_sackOn 4 = .ok (.invokevirtual 39, 3) := by decide +kernel
theorem dL_sackOn_7 : decode cL_sackOn 7 = .ok (.i2l, 1) := by decide +kernel
theorem dL_sackOn_8 : decode cL_sackOn 8 = .ok (.lastore, 1) := by decide +kernel
theorem dL_sackOn_9 : decode cL_sackOn 9 = .ok (.goto 6, 3) := by decide +kernel
theorem dL_sackOn_12 : decode cL_sackOn 12 = .ok (.astore_n 3, 1) := by decide +kernel
theorem dL_sackOn_13 : decode cL_sackOn 13 = .ok (.iconst 1, 1) := by decide +kernel
theorem dL_sackOn_14 : decode cL_sackOn 14 = .ok (.ireturn, 1) := by decide +kernel
theorem dL_sackOn_15 : decode cL_sackOn 15 = .ok (.iconst 0, 1) := by decide +kernel
theorem dL_sackOn_16 : decode cL_sackOn 16 = .ok (.ireturn, 1) := by decide +kernel
set_option maxRecDepth 20000 in
theorem ggL_stoneOf_X1_stoneOf : GoodIn wsL_stoneOf wsX1_stoneOf := goodIn_ca (goodIn_r _ [6, 7, 8, 9, 10, 5, 11, 12, 13, 14, 15, 16, 17, 18, 19, 20, 21, 22, 23, 24, 25, 26, 27, 28, 29, 30, 31] (by decide +kernel) (by decide +kernel)) (goodIn_sub (fun _ h => List.mem_cons_of_mem _ (List.mem_append_right _ h)) (by decide +kernel))
set_option maxRecDepth 20000 in
theorem gL_stoneOf_X1_stoneOf : GoodIn wsL_stoneOf (wsV RL 42 RX1 yX1_stoneOf wsX1_stoneOf) := goodIn_app (goodIn_of _ (by decide +kernel)) ggL_stoneOf_X1_stoneOf
theorem dL_stoneOf_0 : decode cL_stoneOf 0 = .ok (.aload_n 2, 1) := by decide +kernel
theorem dL_stoneOf_1 : decode cL_stoneOf 1 = .ok (.iconst 0, 1) := by decide +kernel
theorem dL_stoneOf_2 : decode cL_stoneOf 2 = .ok (.aload_n 0, 1) := by decide +kernel
theorem dL_stoneOf_3 : decode cL_stoneOf 3 = .ok (.iload_n 1, 1) := by decide +kernel
theorem dL_stoneOf_4 : decode cL_stoneOf 4 = .ok (.invokevirtual 42, 3) := by decide +kernel
theorem dL_stoneOf_7 : decode cL_stoneOf 7 = .ok (.i2l, 1) := by decide +kernel
theorem dL_stoneOf_8 : decode cL_stoneOf 8 = .ok (.lastore, 1) := by decide +kernel
theorem dL_stoneOf_9 : decode cL_stoneOf 9 = .ok (.goto 6, 3) := by decide +kernel
theorem dL_stoneOf_12 : decode cL_stoneOf 12 = .ok (.astore_n 3, 1) := by decide +kernel
theorem dL_stoneOf_13 : decode cL_stoneOf 13 = .ok (.iconst 1, 1) := by decide +kernel
theorem dL_stoneOf_14 : decode cL_stoneOf 14 = .ok (.ireturn, 1) := by decide +kernel
theorem dL_stoneOf_15 : decode cL_stoneOf 15 = .ok (.iconst 0, 1) := by decide +kernel
theorem dL_stoneOf_16 : decode cL_stoneOf 16 = .ok (.ireturn, 1) := by decide +kernel
set_option maxRecDepth 20000 in
theorem ggL_leftOf_X1_leftOf : GoodIn wsL_leftOf wsX1_leftOf := goodIn_ca (goodIn_r _ [6, 7, 8, 9, 10, 5, 11, 12, 13, 14, 15, 16, 17, 18, 19, 20, 21, 22, 23, 24, 25, 26, 27, 28, 29, 30, 31] (by decide +kernel) (by decide +kernel)) (goodIn_sub (fun _ h => List.mem_cons_of_mem _ (List.mem_append_right _ h)) (by decide +kernel))
set_option maxRecDepth 20000 in
theorem gL_leftOf_X1_leftOf : GoodIn wsL_leftOf (wsV RL 45 RX1 yX1_leftOf wsX1_leftOf) := goodIn_app (goodIn_of _ (by decide +kernel)) ggL_leftOf_X1_leftOf
theorem dL_leftOf_0 : decode cL_leftOf 0 = .ok (.aload_n 2, 1) := by decide +kernel
theorem dL_leftOf_1 : decode cL_leftOf 1 = .ok (.iconst 0, 1) := by decide +kernel
theorem dL_leftOf_2 : decode cL_leftOf 2 = .ok (.aload_n 0, 1) := by decide +kernel
theorem dL_leftOf_3 : decode cL_leftOf 3 = .ok (.iload_n 1, 1) := by decide +kernel
theorem dL_leftOf_4 : decode cL_leftOf 4 = .ok (.invokevirtual 45, 3) := by decide +kernel
theorem dL_leftOf_7 : decode cL_leftOf 7 = .ok (.i2l, 1) := by decide +kernel
theorem dL_leftOf_8 : decode cL_leftOf 8 = .ok (.lastore, 1) := by decide +kernel
theorem dL_leftOf_9 : decode cL_leftOf 9 = .ok (.goto 6, 3) := by decide +kernel
theorem dL_leftOf_12 : decode cL_leftOf 12 = .ok (.astore_n 3, 1) := by decide +kernel
theorem dL_leftOf_13 : decode cL_leftOf 13 = .ok (.iconst 1, 1) := by decide +kernel
theorem dL_leftOf_14 : decode cL_leftOf 14 = .ok (.ireturn, 1) := by decide +kernel
theorem dL_leftOf_15 : decode cL_leftOf 15 = .ok (.iconst 0, 1) := by decide +kernel
theorem dL_leftOf_16 : decode cL_leftOf 16 = .ok (.ireturn, 1) := by decide +kernel
set_option maxRecDepth 20000 in
theorem ggL_untilOf_X1_untilOf : GoodIn wsL_untilOf wsX1_untilOf := goodIn_ca (goodIn_r _ [6, 7, 8, 9, 10, 5, 11, 12, 13, 14, 15, 16, 17, 18, 19, 20, 21, 22, 23, 24, 25, 26, 27, 28, 29, 30, 31] (by decide +kernel) (by decide +kernel)) (goodIn_sub (fun _ h => List.mem_cons_of_mem _ (List.mem_append_right _ h)) (by decide +kernel))
set_option maxRecDepth 20000 in
theorem gL_untilOf_X1_untilOf : GoodIn wsL_untilOf (wsV RL 48 RX1 yX1_untilOf wsX1_untilOf) := goodIn_app (goodIn_of _ (by decide +kernel)) ggL_untilOf_X1_untilOf
theorem dL_untilOf_0 : decode cL_untilOf 0 = .ok (.aload_n 2, 1) := by decide +kernel
theorem dL_untilOf_1 : decode cL_untilOf 1 = .ok (.iconst 0, 1) := by decide +kernel
theorem dL_untilOf_2 : decode cL_untilOf 2 = .ok (.aload_n 0, 1) := by decide +kernel
theorem dL_untilOf_3 : decode cL_untilOf 3 = .ok (.iload_n 1, 1) := by decide +kernel
theorem dL_untilOf_4 : decode cL_untilOf 4 = .ok (.invokevirtual 48, 3) := by decide +kernel
theorem dL_untilOf_7 : decode cL_untilOf 7 = .ok (.i2l, 1) := by decide +kernel
theorem dL_untilOf_8 : decode cL_untilOf 8 = .ok (.lastore, 1) := by decide +kernel
theorem dL_untilOf_9 : decode cL_untilOf 9 = .ok (.goto 6, 3) := by decide +kernel
theorem dL_untilOf_12 : decode cL_untilOf 12 = .ok (.astore_n 3, 1) := by decide +kernel
theorem dL_untilOf_13 : decode cL_untilOf 13 = .ok (.iconst 1, 1) := by decide +kernel
theorem dL_untilOf_14 : decode cL_untilOf 14 = .ok (.ireturn, 1) := by decide +kernel
theorem dL_untilOf_15 : decode cL_untilOf 15 = .ok (.iconst 0, 1) := by decide +kernel
theorem dL_untilOf_16 : decode cL_untilOf 16 = .ok (.ireturn, 1) := by decide +kernel
set_option maxRecDepth 20000 in
theorem ggL_groundAt_X1_groundAt : GoodIn wsL_groundAt wsX1_groundAt := goodIn_ca (goodIn_r _ [6, 7, 8, 9, 10, 5, 11, 12, 13, 14, 15, 16, 17, 18, 19, 20, 21, 22, 23, 24, 25, 26, 27, 28, 29, 30, 31] (by decide +kernel) (by decide +kernel)) (goodIn_sub (fun _ h => List.mem_cons_of_mem _ (List.mem_append_right _ h)) (by decide +kernel))
set_option maxRecDepth 20000 in
theorem gL_groundAt_X1_groundAt : GoodIn wsL_groundAt (wsV RL 51 RX1 yX1_groundAt wsX1_groundAt) := goodIn_app (goodIn_of _ (by decide +kernel)) ggL_groundAt_X1_groundAt
theorem dL_groundAt_0 : decode cL_groundAt 0 = .ok (.aload_n 2, 1) := by decide +kernel
theorem dL_groundAt_1 : decode cL_groundAt 1 = .ok (.iconst 0, 1) := by decide +kernel
theorem dL_groundAt_2 : decode cL_groundAt 2 = .ok (.aload_n 0, 1) := by decide +kernel
theorem dL_groundAt_3 : decode cL_groundAt 3 = .ok (.iload_n 1, 1) := by decide +kernel
theorem dL_groundAt_4 : decode cL_groundAt 4 = .ok (.invokevirtual 51, 3) := by decide +kernel
theorem dL_groundAt_7 : decode cL_groundAt 7 = .ok (.i2l, 1) := by decide +kernel
theorem dL_groundAt_8 : decode cL_groundAt 8 = .ok (.lastore, 1) := by decide +kernel
theorem dL_groundAt_9 : decode cL_groundAt 9 = .ok (.goto 6, 3) := by decide +kernel
theorem dL_groundAt_12 : decode cL_groundAt 12 = .ok (.astore_n 3, 1) := by decide +kernel
theorem dL_groundAt_13 : decode cL_groundAt 13 = .ok (.iconst 1, 1) := by decide +kernel
theorem dL_groundAt_14 : decode cL_groundAt 14 = .ok (.ireturn, 1) := by decide +kernel
theorem dL_groundAt_15 : decode cL_groundAt 15 = .ok (.iconst 0, 1) := by decide +kernel
theorem dL_groundAt_16 : decode cL_groundAt 16 = .ok (.ireturn, 1) := by decide +kernel
set_option maxRecDepth 20000 in
theorem ggL_placeOf_X1_placeOf : GoodIn wsL_placeOf wsX1_placeOf := goodIn_ca (goodIn_r _ [6, 7, 8, 9, 10, 5, 11, 12, 13, 14, 15, 16, 17, 18, 19, 20, 21, 22, 23, 24, 25, 26, 27, 28, 29, 30, 31, 32, 33, 34, 35, 36, 37, 38, 39, 40, 41, 42, 43, 44, 45, 46, 47, 48, 49] (by decide +kernel) (by decide +kernel)) (goodIn_sub (fun _ h => List.mem_cons_of_mem _ (List.mem_append_right _ h)) (by decide +kernel))
set_option maxRecDepth 20000 in
theorem gL_placeOf_X1_placeOf : GoodIn wsL_placeOf (wsV RL 54 RX1 yX1_placeOf wsX1_placeOf) := goodIn_app (goodIn_of _ (by decide +kernel)) ggL_placeOf_X1_placeOf
theorem dL_placeOf_0 : decode cL_placeOf 0 = .ok (.aload_n 2, 1) := by decide +kernel
theorem dL_placeOf_1 : decode cL_placeOf 1 = .ok (.iconst 0, 1) := by decide +kernel
theorem dL_placeOf_2 : decode cL_placeOf 2 = .ok (.aload_n 0, 1) := by decide +kernel
theorem dL_placeOf_3 : decode cL_placeOf 3 = .ok (.iload_n 1, 1) := by decide +kernel
theorem dL_placeOf_4 : decode cL_placeOf 4 = .ok (.invokevirtual 54, 3) := by decide +kernel
theorem dL_placeOf_7 : decode cL_placeOf 7 = .ok (.i2l, 1) := by decide +kernel
theorem dL_placeOf_8 : decode cL_placeOf 8 = .ok (.lastore, 1) := by decide +kernel
theorem dL_placeOf_9 : decode cL_placeOf 9 = .ok (.goto 6, 3) := by decide +kernel
theorem dL_placeOf_12 : decode cL_placeOf 12 = .ok (.astore_n 3, 1) := by decide +kernel
theorem dL_placeOf_13 : decode cL_placeOf 13 = .ok (.iconst 1, 1) := by decide +kernel
theorem dL_placeOf_14 : decode cL_placeOf 14 = .ok (.ireturn, 1) := by decide +kernel
theorem dL_placeOf_15 : decode cL_placeOf 15 = .ok (.iconst 0, 1) := by decide +kernel
theorem dL_placeOf_16 : decode cL_placeOf 16 = .ok (.ireturn, 1) := by decide +kernel
set_option maxRecDepth 20000 in
theorem ggL_leftFor_X1_leftFor : GoodIn wsL_leftFor wsX1_leftFor := goodIn_ca (goodIn_r _ [6, 7, 8, 9, 5, 10, 11, 12, 13, 14, 15, 16, 17, 18, 19, 20, 21, 22, 23, 24, 25, 26, 27, 28, 29, 30] (by decide +kernel) (by decide +kernel)) (goodIn_sub (fun _ h => List.mem_cons_of_mem _ (List.mem_append_right _ h)) (by decide +kernel))
set_option maxRecDepth 20000 in
theorem gL_leftFor_X1_leftFor : GoodIn wsL_leftFor (wsV RL 57 RX1 yX1_leftFor wsX1_leftFor) := goodIn_app (goodIn_of _ (by decide +kernel)) ggL_leftFor_X1_leftFor
theorem dL_leftFor_0 : decode cL_leftFor 0 = .ok (.aload_n 2, 1) := by decide +kernel
theorem dL_leftFor_1 : decode cL_leftFor 1 = .ok (.iconst 0, 1) := by decide +kernel
theorem dL_leftFor_2 : decode cL_leftFor 2 = .ok (.aload_n 0, 1) := by decide +kernel
theorem dL_leftFor_3 : decode cL_leftFor 3 = .ok (.iload_n 1, 1) := by decide +kernel
theorem dL_leftFor_4 : decode cL_leftFor 4 = .ok (.invokevirtual 57, 3) := by decide +kernel
theorem dL_leftFor_7 : decode cL_leftFor 7 = .ok (.i2l, 1) := by decide +kernel
theorem dL_leftFor_8 : decode cL_leftFor 8 = .ok (.lastore, 1) := by decide +kernel
theorem dL_leftFor_9 : decode cL_leftFor 9 = .ok (.goto 6, 3) := by decide +kernel
theorem dL_leftFor_12 : decode cL_leftFor 12 = .ok (.astore_n 3, 1) := by decide +kernel
theorem dL_leftFor_13 : decode cL_leftFor 13 = .ok (.iconst 1, 1) := by decide +kernel
theorem dL_leftFor_14 : decode cL_leftFor 14 = .ok (.ireturn, 1) := by decide +kernel
theorem dL_leftFor_15 : decode cL_leftFor 15 = .ok (.iconst 0, 1) := by decide +kernel
theorem dL_leftFor_16 : decode cL_leftFor 16 = .ok (.ireturn, 1) := by decide +kernel
set_option maxRecDepth 20000 in
theorem ggL_willBeGroundAt_X1_willBeGroundAt : GoodIn wsL_willBeGroundAt wsX1_willBeGroundAt := goodIn_ca (goodIn_r _ [6, 7, 8, 9, 10, 5, 11, 12, 13, 14, 15, 16, 17, 18, 19, 20, 21, 22, 23, 24, 25, 26, 27, 28, 29, 30, 31, 32, 33, 34, 35, 36, 37, 38, 39, 40, 41, 42, 43, 44, 45, 46, 47, 48, 49, 50, 51, 52, 53, 54, 55, 56, 57, 58, 59, 60, 61, 62, 63, 64, 65, 66, 67, 68, 69, 70, 71, 72, 73, 74, 75, 76, 77, 78, 79, 80, 81, 82, 83, 84, 85, 86, 87, 88, 89, 90, 91, 92, 93, 94, 95, 96, 97, 98, 99, 100, 101, 102, 103, 104, 105, 106, 107, 108, 109, 110, 111, 112] (by decide +kernel) (by decide +kernel)) (goodIn_sub (fun _ h => List.mem_cons_of_mem _ (List.mem_append_right _ h)) (by decide +kernel))
set_option maxRecDepth 20000 in
theorem gL_willBeGroundAt_X1_willBeGroundAt : GoodIn wsL_willBeGroundAt (wsV RL 60 RX1 yX1_willBeGroundAt wsX1_willBeGroundAt) := goodIn_app (goodIn_of _ (by decide +kernel)) ggL_willBeGroundAt_X1_willBeGroundAt
theorem dL_willBeGroundAt_0 : decode cL_willBeGroundAt 0 = .ok (.aload_n 2, 1) := by decide +kernel
theorem dL_willBeGroundAt_1 : decode cL_willBeGroundAt 1 = .ok (.iconst 0, 1) := by decide +kernel
theorem dL_willBeGroundAt_2 : decode cL_willBeGroundAt 2 = .ok (.aload_n 0, 1) := by decide +kernel
theorem dL_willBeGroundAt_3 : decode cL_willBeGroundAt 3 = .ok (.iload_n 1, 1) := by decide +kernel
theorem dL_willBeGroundAt_4 : decode cL_willBeGroundAt 4 = .ok (.invokevirtual 60, 3) := by decide +kernel
theorem dL_willBeGroundAt_7 : decode cL_willBeGroundAt 7 = .ok (.i2l, 1) := by decide +kernel
theorem dL_willBeGroundAt_8 : decode cL_willBeGroundAt 8 = .ok (.lastore, 1) := by decide +kernel
theorem dL_willBeGroundAt_9 : decode cL_willBeGroundAt 9 = .ok (.goto 6, 3) := by decide +kernel
theorem dL_willBeGroundAt_12 : decode cL_willBeGroundAt 12 = .ok (.astore_n 3, 1) := by decide +kernel
theorem dL_willBeGroundAt_13 : decode cL_willBeGroundAt 13 = .ok (.iconst 1, 1) := by decide +kernel
theorem dL_willBeGroundAt_14 : decode cL_willBeGroundAt 14 = .ok (.ireturn, 1) := by decide +kernel
theorem dL_willBeGroundAt_15 : decode cL_willBeGroundAt 15 = .ok (.iconst 0, 1) := by decide +kernel
theorem dL_willBeGroundAt_16 : decode cL_willBeGroundAt 16 = .ok (.ireturn, 1) := by decide +kernel
set_option maxRecDepth 20000 in
theorem ggL_spareOf_X1_spareOf : GoodIn wsL_spareOf wsX1_spareOf := goodIn_ca (goodIn_r _ [6, 7, 8, 9, 10, 5, 11, 12, 13, 14, 15, 16, 17, 18, 19, 20, 21, 22, 23, 24, 25, 26, 27, 28, 29, 30, 31, 32, 33, 34, 35, 36, 37, 38, 39, 40, 41, 42, 43, 44, 45, 46, 47, 48, 49, 50, 51, 52, 53, 54, 55, 56, 57, 58, 59, 60, 61, 62, 63, 64, 65, 66, 67, 68, 69, 70, 71, 72, 73, 74, 75, 76, 77, 78, 79, 80, 81, 82, 83, 84, 85, 86, 87, 88, 89, 90, 91, 92, 93, 94, 95, 96, 97, 98, 99, 100, 101, 102, 103, 104, 105, 106, 107, 108, 109, 110, 111, 112, 113] (by decide +kernel) (by decide +kernel)) (goodIn_sub (fun _ h => List.mem_cons_of_mem _ (List.mem_append_right _ h)) (by decide +kernel))
set_option maxRecDepth 20000 in
theorem gL_spareOf_X1_spareOf : GoodIn wsL_spareOf (wsV RL 63 RX1 yX1_spareOf wsX1_spareOf) := goodIn_app (goodIn_of _ (by decide +kernel)) ggL_spareOf_X1_spareOf
theorem dL_spareOf_0 : decode cL_spareOf 0 = .ok (.aload_n 2, 1) := by decide +kernel
theorem dL_spareOf_1 : decode cL_spareOf 1 = .ok (.iconst 0, 1) := by decide +kernel
theorem dL_spareOf_2 : decode cL_spareOf 2 = .ok (.aload_n 0, 1) := by decide +kernel
theorem dL_spareOf_3 : decode cL_spareOf 3 = .ok (.iload_n 1, 1) := by decide +kernel
theorem dL_spareOf_4 : decode cL_spareOf 4 = .ok (.invokevirtual 63, 3) := by decide +kernel
theorem dL_spareOf_7 : decode cL_spareOf 7 = .ok (.i2l, 1) := by decide +kernel
theorem dL_spareOf_8 : decode cL_spareOf 8 = .ok (.lastore, 1) := by decide +kernel
theorem dL_spareOf_9 : decode cL_spareOf 9 = .ok (.goto 6, 3) := by decide +kernel
theorem dL_spareOf_12 : decode cL_spareOf 12 = .ok (.astore_n 3, 1) := by decide +kernel
theorem dL_spareOf_13 : decode cL_spareOf 13 = .ok (.iconst 1, 1) := by decide +kernel
theorem dL_spareOf_14 : decode cL_spareOf 14 = .ok (.ireturn, 1) := by decide +kernel
theorem dL_spareOf_15 : decode cL_spareOf 15 = .ok (.iconst 0, 1) := by decide +kernel
theorem dL_spareOf_16 : decode cL_spareOf 16 = .ok (.ireturn, 1) := by decide +kernel
set_option maxRecDepth 20000 in
theorem ggL_lateWith_X1_lateWith : GoodIn wsL_lateWith wsX1_lateWith := goodIn_ca (goodIn_r _ [6, 7, 8, 9, 10, 5, 11, 12, 13, 14, 15, 16, 17, 18, 19, 20, 21, 22, 23, 24, 25, 26, 27, 28, 29, 30, 31, 32, 33, 34, 35, 36, 37, 38, 39, 40, 41, 42, 43, 44, 45, 46, 47, 48, 49, 50, 51, 52, 53, 54, 55, 56, 57, 58, 59, 60, 61, 62, 63, 64, 65, 66, 67, 68, 69, 70, 71, 72, 73, 74, 75, 76, 77, 78, 79, 80, 81, 82, 83, 84, 85, 86, 87, 88, 89, 90, 91, 92, 93, 94, 95, 96, 97, 98, 99, 100, 101, 102, 103, 104, 105, 106, 107, 108, 109, 110, 111, 112, 113, 114] (by decide +kernel) (by decide +kernel)) (goodIn_sub (fun _ h => List.mem_cons_of_mem _ (List.mem_append_right _ h)) (by decide +kernel))
set_option maxRecDepth 20000 in
theorem gL_lateWith_X1_lateWith : GoodIn wsL_lateWith (wsV RL 66 RX1 yX1_lateWith wsX1_lateWith) := goodIn_app (goodIn_of _ (by decide +kernel)) ggL_lateWith_X1_lateWith
theorem dL_lateWith_0 : decode cL_lateWith 0 = .ok (.aload_n 3, 1) := by decide +kernel
theorem dL_lateWith_1 : decode cL_lateWith 1 = .ok (.iconst 0, 1) := by decide +kernel
theorem dL_lateWith_2 : decode cL_lateWith 2 = .ok (.aload_n 0, 1) := by decide +kernel
theorem dL_lateWith_3 : decode cL_lateWith 3 = .ok (.iload_n 1, 1) := by decide +kernel
theorem dL_lateWith_4 : decode cL_lateWith 4 = .ok (.iload_n 2, 1) := by decide +kernel
theorem dL_lateWith_5 : decode cL_lateWith 5 = .ok (.invokevirtual 66, 3) := by decide +kernel
theorem dL_lateWith_8 : decode cL_lateWith 8 = .ok (.i2l, 1) := by decide +kernel
theorem dL_lateWith_9 : decode cL_lateWith 9 = .ok (.lastore, 1) := by decide +kernel
theorem dL_lateWith_10 : decode cL_lateWith 10 = .ok (.goto 7, 3) := by decide +kernel
theorem dL_lateWith_13 : decode cL_lateWith 13 = .ok (.astore 4, 2) := by decide +kernel
theorem dL_lateWith_15 : decode cL_lateWith 15 = .ok (.iconst 1, 1) := by decide +kernel
theorem dL_lateWith_16 : decode cL_lateWith 16 = .ok (.ireturn, 1) := by decide +kernel
theorem dL_lateWith_17 : decode cL_lateWith 17 = .ok (.iconst 0, 1) := by decide +kernel
theorem dL_lateWith_18 : decode cL_lateWith 18 = .ok (.ireturn, 1) := by decide +kernel
set_option maxRecDepth 20000 in
theorem ggL_wouldBeInTime_X1_wouldBeInTime : GoodIn wsL_wouldBeInTime wsX1_wouldBeInTime := goodIn_ca (goodIn_r _ [6, 7, 8, 9, 10, 5, 11, 12, 13, 14, 15, 16, 17, 18, 19, 20, 21, 22, 23, 24, 25, 26, 27, 28, 29, 30, 31, 32, 33, 34, 35, 36, 37, 38, 39, 40, 41, 42, 43, 44, 45, 46, 47, 48, 49, 50, 51, 52, 53, 54, 55, 56, 57, 58, 59, 60, 61, 62, 63, 64, 65, 66, 67, 68, 69, 70, 71, 72, 73, 74, 75, 76, 77, 78, 79, 80, 81, 82, 83, 84, 85, 86, 87, 88, 89, 90, 91, 92, 93, 94, 95, 96, 97, 98, 99, 100, 101, 102, 103, 104, 105, 106, 107, 108, 109, 110, 111, 112, 113, 114, 115] (by decide +kernel) (by decide +kernel)) (goodIn_sub (fun _ h => List.mem_cons_of_mem _ (List.mem_append_right _ h)) (by decide +kernel))
set_option maxRecDepth 20000 in
theorem gL_wouldBeInTime_X1_wouldBeInTime : GoodIn wsL_wouldBeInTime (wsV RL 70 RX1 yX1_wouldBeInTime wsX1_wouldBeInTime) := goodIn_app (goodIn_of _ (by decide +kernel)) ggL_wouldBeInTime_X1_wouldBeInTime
theorem dL_wouldBeInTime_0 : decode cL_wouldBeInTime 0 = .ok (.aload_n 3, 1) := by decide +kernel
theorem dL_wouldBeInTime_1 : decode cL_wouldBeInTime 1 = .ok (.iconst 0, 1) := by decide +kernel
theorem dL_wouldBeInTime_2 : decode cL_wouldBeInTime 2 = .ok (.aload_n 0, 1) := by decide +kernel
theorem dL_wouldBeInTime_3 : decode cL_wouldBeInTime 3 = .ok (.iload_n 1, 1) := by decide +kernel
theorem dL_wouldBeInTime_4 : decode cL_wouldBeInTime 4 = .ok (.iload_n 2, 1) := by decide +kernel
theorem dL_wouldBeInTime_5 : decode cL_wouldBeInTime 5 = .ok (.invokevirtual 70, 3) := by decide +kernel
theorem dL_wouldBeInTime_8 : decode cL_wouldBeInTime 8 = .ok (.ifCond .eq 7, 3) := by decide +kernel
theorem dL_wouldBeInTime_11 : decode cL_wouldBeInTime 11 = .ok (.lconst 1, 1) := by decide +kernel
theorem dL_wouldBeInTime_12 : decode cL_wouldBeInTime 12 = .ok (.goto 4, 3) := by decide +kernel
theorem dL_wouldBeInTime_15 : decode cL_wouldBeInTime 15 = .ok (.lconst 0, 1) := by decide +kernel
theorem dL_wouldBeInTime_16 : decode cL_wouldBeInTime 16 = .ok (.lastore, 1) := by decide +kernel
theorem dL_wouldBeInTime_17 : decode cL_wouldBeInTime 17 = .ok (.goto 7, 3) := by decide +kernel
theorem dL_wouldBeInTime_20 : decode cL_wouldBeInTime 20 = .ok (.astore 4, 2) := by decide +kernel
theorem dL_wouldBeInTime_22 : decode cL_wouldBeInTime 22 = .ok (.iconst 1, 1) := by decide +kernel
theorem dL_wouldBeInTime_23 : decode cL_wouldBeInTime 23 = .ok (.ireturn, 1) := by decide +kernel
theorem dL_wouldBeInTime_24 : decode cL_wouldBeInTime 24 = .ok (.iconst 0, 1) := by decide +kernel
theorem dL_wouldBeInTime_25 : decode cL_wouldBeInTime 25 = .ok (.ireturn, 1) := by decide +kernel
set_option maxRecDepth 20000 in
theorem ggL_groundIn_X1_groundIn : GoodIn wsL_groundIn wsX1_groundIn := goodIn_ca (goodIn_r _ [6, 7, 8, 9, 10, 5, 11, 12, 13, 14, 15, 16, 17, 18, 19, 20, 21, 22, 23, 24, 25, 26, 27, 28, 29, 30, 31, 32, 33, 34, 35, 36, 37, 38, 39, 40, 41, 42, 43, 44, 45, 46, 47, 48, 49, 50, 51, 52, 53, 54, 55, 56, 57, 58, 59, 60, 61, 62, 63, 64, 65, 66, 67, 68, 69, 70, 71, 72, 73, 74, 75, 76, 77, 78, 79, 80, 81, 82, 83, 84, 85, 86, 87, 88, 89, 90, 91, 92, 93, 94, 95, 96, 97, 98, 99, 100, 101, 102, 103, 104, 105, 106, 107] (by decide +kernel) (by decide +kernel)) (goodIn_sub (fun _ h => List.mem_cons_of_mem _ (List.mem_append_right _ h)) (by decide +kernel))
set_option maxRecDepth 20000 in
theorem gL_groundIn_X1_groundIn : GoodIn wsL_groundIn (wsV RL 74 RX1 yX1_groundIn wsX1_groundIn) := goodIn_app (goodIn_of _ (by decide +kernel)) ggL_groundIn_X1_groundIn
theorem dL_groundIn_0 : decode cL_groundIn 0 = .ok (.aload_n 2, 1) := by decide +kernel
theorem dL_groundIn_1 : decode cL_groundIn 1 = .ok (.iconst 0, 1) := by decide +kernel
theorem dL_groundIn_2 : decode cL_groundIn 2 = .ok (.aload_n 0, 1) := by decide +kernel
theorem dL_groundIn_3 : decode cL_groundIn 3 = .ok (.iload_n 1, 1) := by decide +kernel
theorem dL_groundIn_4 : decode cL_groundIn 4 = .ok (.invokevirtual 74, 3) := by decide +kernel
theorem dL_groundIn_7 : decode cL_groundIn 7 = .ok (.i2l, 1) := by decide +kernel
theorem dL_groundIn_8 : decode cL_groundIn 8 = .ok (.lastore, 1) := by decide +kernel
theorem dL_groundIn_9 : decode cL_groundIn 9 = .ok (.goto 6, 3) := by decide +kernel
theorem dL_groundIn_12 : decode cL_groundIn 12 = .ok (.astore_n 3, 1) := by decide +kernel
theorem dL_groundIn_13 : decode cL_groundIn 13 = .ok (.iconst 1, 1) := by decide +kernel
theorem dL_groundIn_14 : decode cL_groundIn 14 = .ok (.ireturn, 1) := by decide +kernel
theorem dL_groundIn_15 : decode cL_groundIn 15 = .ok (.iconst 0, 1) := by decide +kernel
theorem dL_groundIn_16 : decode cL_groundIn 16 = .ok (.ireturn, 1) := by decide +kernel
set_option maxRecDepth 20000 in
theorem ggL_law_X1_init : GoodIn wsL_law wsX1_init := goodIn_r _ [9, 10, 11, 12, 13, 14, 15, 16, 17, 18, 19, 20, 21, 22, 23, 24, 25, 26, 27, 28, 29, 30, 31, 32, 33, 34, 35, 36, 37, 38, 39, 630, 631, 632, 633, 634, 635, 636, 637, 638, 639, 640, 641, 642, 643, 644, 645, 616, 617] (by decide +kernel) (by decide +kernel)
set_option maxRecDepth 20000 in
theorem gL_law_X1_init : GoodIn wsL_law (wsX1_init) := ggL_law_X1_init
set_option maxRecDepth 20000 in
theorem ggL_law_X2_init : GoodIn wsL_law wsX2_init := goodIn_r _ [42, 43, 11, 12, 22, 44, 45, 46, 47, 48, 49, 50, 618, 619, 620, 621, 622, 623, 624, 625, 626, 627, 628, 629] (by decide +kernel) (by decide +kernel)
set_option maxRecDepth 20000 in
theorem gL_law_X2_init : GoodIn wsL_law (wsX2_init) := ggL_law_X2_init
set_option maxRecDepth 20000 in
theorem ggL_law_L_addStone : GoodIn wsL_law wsL_addStone := goodIn_ca (goodIn_ca (goodIn_r _ [54, 55, 56, 57, 58, 59, 2, 60, 61, 62, 63, 64, 16, 65, 66, 67, 15, 68, 34, 24, 25, 616, 617, 630, 631, 632, 633, 634, 635, 636, 637, 638, 639, 640, 641, 642, 643, 644, 645] (by decide +kernel) (by decide +kernel)) (goodIn_sub (fun _ h => List.mem_append_left _ (List.mem_append_left _ (List.mem_append_right _ h))) (by decide +kernel))) (goodIn_sub (fun _ h => List.mem_append_left _ (List.mem_append_right _ h)) (by decide +kernel))
set_option maxRecDepth 20000 in
theorem gL_law_L_addStone : GoodIn wsL_law (va_wsS RL 81 yL_addStone wsL_addStone) := goodIn_app (goodIn_of _ (by decide +kernel)) ggL_law_L_addStone
set_option maxRecDepth 20000 in
theorem ggL_law_X2_addStone : GoodIn wsL_law wsX2_addStone := goodIn_r _ [72, 73, 74, 44, 75, 76, 5, 77, 78, 79, 80, 81, 618, 619, 620, 621, 622, 623, 624, 625, 626, 627, 628, 629] (by decide +kernel) (by decide +kernel)
set_option maxRecDepth 20000 in
theorem gL_law_X2_addStone : GoodIn wsL_law (wsV RL 86 RX2 yX2_addStone wsX2_addStone) := goodIn_app (goodIn_of _ (by decide +kernel)) ggL_law_X2_addStone
set_option maxRecDepth 20000 in
theorem ggL_law_X2_thrown : GoodIn wsL_law wsX2_thrown := goodIn_r _ [85, 73, 618, 619, 620, 621, 622, 623, 624, 625, 626, 627, 628, 629] (by decide +kernel) (by decide +kernel)
set_option maxRecDepth 20000 in
theorem gL_law_X2_thrown : GoodIn wsL_law (wsV RL 87 RX2 yX2_thrown wsX2_thrown) := goodIn_app (goodIn_of _ (by decide +kernel)) ggL_law_X2_thrown
set_option maxRecDepth 20000 in
theorem ggL_law_L_setWind : GoodIn wsL_law wsL_setWind := goodIn_ca (goodIn_ca (goodIn_r _ [88, 89, 55, 90, 91, 92, 2, 93, 94, 95, 61, 62, 16, 616, 617, 630, 631, 632, 633, 634, 635, 636, 637, 638, 639, 640, 641, 642, 643, 644, 645] (by decide +kernel) (by decide +kernel)) (goodIn_sub (fun _ h => List.mem_append_right _ h) (by decide +kernel))) (goodIn_sub (fun _ h => List.mem_append_left _ (List.mem_append_left _ (List.mem_append_right _ h))) (by decide +kernel))
set_option maxRecDepth 20000 in
theorem gL_law_L_setWind : GoodIn wsL_law (va_wsS RL 91 yL_setWind wsL_setWind) := goodIn_app (goodIn_of _ (by decide +kernel)) ggL_law_L_setWind
set_option maxRecDepth 20000 in
theorem ggL_law_X2_setWind : GoodIn wsL_law wsX2_setWind := goodIn_r _ [99, 73, 45, 75, 76, 5, 77, 78, 79, 80, 81, 618, 619, 620, 621, 622, 623, 624, 625, 626, 627, 628, 629] (by decide +kernel) (by decide +kernel)
set_option maxRecDepth 20000 in
theorem gL_law_X2_setWind : GoodIn wsL_law (wsV RL 94 RX2 yX2_setWind wsX2_setWind) := goodIn_app (goodIn_of _ (by decide +kernel)) ggL_law_X2_setWind
set_option maxRecDepth 20000 in
theorem ggL_law_L_setRule : GoodIn wsL_law wsL_setRule := goodIn_ca (goodIn_r _ [102, 55, 103, 104, 105, 2, 106, 16, 107, 108, 109, 61, 62, 616, 617, 630, 631, 632, 633, 634, 635, 636, 637, 638, 639, 640, 641, 642, 643, 644, 645] (by decide +kernel) (by decide +kernel)) (goodIn_sub (fun _ h => List.mem_append_left _ (List.mem_append_left _ (List.mem_append_right _ h))) (by decide +kernel))
set_option maxRecDepth 20000 in
theorem gL_law_L_setRule : GoodIn wsL_law (va_wsS RL 95 yL_setRule wsL_setRule) := goodIn_app (goodIn_of _ (by decide +kernel)) ggL_law_L_setRule
set_option maxRecDepth 20000 in
theorem ggL_law_X2_setRule : GoodIn wsL_law wsX2_setRule := goodIn_r _ [113, 73, 114, 75, 76, 5, 77, 78, 79, 80, 81, 618, 619, 620, 621, 622, 623, 624, 625, 626, 627, 628, 629] (by decide +kernel) (by decide +kernel)
set_option maxRecDepth 20000 in
theorem gL_law_X2_setRule : GoodIn wsL_law (wsV RL 97 RX2 yX2_setRule wsX2_setRule) := goodIn_app (goodIn_of _ (by decide +kernel)) ggL_law_X2_setRule
set_option maxRecDepth 20000 in
theorem ggL_law_X1_setTakingOff : GoodIn wsL_law wsX1_setTakingOff := goodIn_r _ [118, 16, 616, 617, 630, 631, 632, 633, 634, 635, 636, 637, 638, 639, 640, 641, 642, 643, 644, 645] (by decide +kernel) (by decide +kernel)
set_option maxRecDepth 20000 in
theorem gL_law_X1_setTakingOff : GoodIn wsL_law (wsV RL 98 RX1 yX1_setTakingOff wsX1_setTakingOff) := goodIn_app (goodIn_of _ (by decide +kernel)) ggL_law_X1_setTakingOff
set_option maxRecDepth 20000 in
theorem ggL_law_X2_setTakingOff : GoodIn wsL_law wsX2_setTakingOff := goodIn_r _ [122, 73, 123, 618, 619, 620, 621, 622, 623, 624, 625, 626, 627, 628, 629] (by decide +kernel) (by decide +kernel)
set_option maxRecDepth 20000 in
theorem gL_law_X2_setTakingOff : GoodIn wsL_law (wsV RL 102 RX2 yX2_setTakingOff wsX2_setTakingOff) := goodIn_app (goodIn_of _ (by decide +kernel)) ggL_law_X2_setTakingOff
set_option maxRecDepth 20000 in
theorem ggL_law_L_bring : GoodIn wsL_law wsL_bring := goodIn_ca (goodIn_ca (goodIn_r _ [126, 55, 56, 127, 128, 129, 2, 130, 63, 64, 16, 131, 132, 133, 61, 62, 134, 135, 136, 137, 138, 139, 140, 141, 142, 15, 143, 35, 28, 29, 30, 31, 32, 616, 617, 630, 631, 632, 633, 634, 635, 636, 637, 638, 639, 640, 641, 642, 643, 644, 645] (by decide +kernel) (by decide +kernel)) (goodIn_sub (fun _ h => List.mem_append_left _ (List.mem_append_right _ h)) (by decide +kernel))) (goodIn_sub (fun _ h => List.mem_append_left _ (List.mem_append_left _ (List.mem_append_right _ h))) (by decide +kernel))
set_option maxRecDepth 20000 in
theorem gL_law_L_bring : GoodIn wsL_law (va_wsS RL 103 yL_bring wsL_bring) := goodIn_app (goodIn_of _ (by decide +kernel)) ggL_law_L_bring
set_option maxRecDepth 20000 in
theorem ggL_law_X2_bring : GoodIn wsL_law wsX2_bring := goodIn_r _ [147, 73, 148, 75, 76, 5, 77, 78, 79, 80, 81, 149, 150, 151, 152, 46, 47, 48, 618, 619, 620, 621, 622, 623, 624, 625, 626, 627, 628, 629] (by decide +kernel) (by decide +kernel)
set_option maxRecDepth 20000 in
theorem gL_law_X2_bring : GoodIn wsL_law (wsV RL 106 RX2 yX2_bring wsX2_bring) := goodIn_app (goodIn_of _ (by decide +kernel)) ggL_law_X2_bring
set_option maxRecDepth 20000 in
theorem ggL_law_L_lift : GoodIn wsL_law wsL_lift := goodIn_ca (goodIn_ca (goodIn_r _ [155, 89, 56, 156, 157, 158, 2, 159, 63, 64, 16, 160, 161, 162, 163, 94, 95, 164, 165, 166, 15, 167, 25, 31, 616, 617, 630, 631, 632, 633, 634, 635, 636, 637, 638, 639, 640, 641, 642, 643, 644, 645] (by decide +kernel) (by decide +kernel)) (goodIn_sub (fun _ h => List.mem_append_left _ (List.mem_append_right _ h)) (by decide +kernel))) (goodIn_sub (fun _ h => List.mem_append_right _ h) (by decide +kernel))
set_option maxRecDepth 20000 in
theorem gL_law_L_lift : GoodIn wsL_law (va_wsS RL 107 yL_lift wsL_lift) := goodIn_app (goodIn_of _ (by decide +kernel)) ggL_law_L_lift
set_option maxRecDepth 20000 in
theorem ggL_law_X2_lift : GoodIn wsL_law wsX2_lift := goodIn_r _ [171, 73, 48, 172, 173, 174, 5, 175, 148, 75, 76, 77, 78, 79, 80, 81, 618, 619, 620, 621, 622, 623, 624, 625, 626, 627, 628, 629] (by decide +kernel) (by decide +kernel)
set_option maxRecDepth 20000 in
theorem gL_law_X2_lift : GoodIn wsL_law (wsV RL 109 RX2 yX2_lift wsX2_lift) := goodIn_app (goodIn_of _ (by decide +kernel)) ggL_law_X2_lift
set_option maxRecDepth 20000 in
theorem ggL_law_L_setUntil : GoodIn wsL_law wsL_setUntil := goodIn_ca (goodIn_ca (goodIn_r _ [178, 89, 55, 179, 180, 181, 2, 182, 16, 160, 161, 162, 163, 94, 95, 137, 138, 139, 61, 62, 616, 617, 630, 631, 632, 633, 634, 635, 636, 637, 638, 639, 640, 641, 642, 643, 644, 645] (by decide +kernel) (by decide +kernel)) (goodIn_sub (fun _ h => List.mem_append_right _ h) (by decide +kernel))) (goodIn_sub (fun _ h => List.mem_append_left _ (List.mem_append_left _ (List.mem_append_right _ h))) (by decide +kernel))
set_option maxRecDepth 20000 in
theorem gL_law_L_setUntil : GoodIn wsL_law (va_wsS RL 110 yL_setUntil wsL_setUntil) := goodIn_app (goodIn_of _ (by decide +kernel)) ggL_law_L_setUntil
set_option maxRecDepth 20000 in
theorem ggL_law_X2_setUntil : GoodIn wsL_law wsX2_setUntil := goodIn_r _ [186, 73, 47, 172, 173, 174, 5, 175, 148, 75, 76, 77, 78, 79, 80, 81, 618, 619, 620, 621, 622, 623, 624, 625, 626, 627, 628, 629] (by decide +kernel) (by decide +kernel)
set_option maxRecDepth 20000 in
theorem gL_law_X2_setUntil : GoodIn wsL_law (wsV RL 112 RX2 yX2_setUntil wsX2_setUntil) := goodIn_app (goodIn_of _ (by decide +kernel)) ggL_law_X2_setUntil
set_option maxRecDepth 20000 in
theorem ggL_law_L_pass : GoodIn wsL_law wsL_pass := goodIn_ca (goodIn_r _ [189, 55, 190, 191, 192, 2, 193, 16, 194, 195, 196, 61, 62, 197, 198, 199, 15, 200, 33, 36, 35, 39, 201, 202, 203, 204, 34, 25, 205, 206, 207, 208, 209, 210, 211, 212, 29, 213, 214, 215, 216, 38, 30, 217, 165, 166, 167, 31, 218, 219, 220, 221, 27, 37, 222, 223, 224, 225, 226, 227, 228, 229, 24, 230, 231, 232, 233, 234, 235, 236, 237, 23, 238, 239, 240, 241, 242, 243, 244, 245, 32, 616, 617, 630, 631, 632, 633, 634, 635, 636, 637, 638, 639, 640, 641, 642, 643, 644, 645] (by decide +kernel) (by decide +kernel)) (goodIn_sub (fun _ h => List.mem_append_left _ (List.mem_append_left _ (List.mem_append_right _ h))) (by decide +kernel))
set_option maxRecDepth 20000 in
theorem gL_law_L_pass : GoodIn wsL_law (va_wsS RL 113 yL_pass wsL_pass) := goodIn_app (goodIn_of _ (by decide +kernel)) ggL_law_L_pass
set_option maxRecDepth 20000 in
theorem ggL_law_X2_pass : GoodIn wsL_law wsX2_pass := goodIn_r _ [249, 73, 48, 75, 76, 5, 77, 78, 79, 80, 81, 250, 251, 252, 253, 254, 255, 256, 257, 148, 123, 74, 50, 45, 44, 258, 231, 232, 233, 259, 260, 261, 262, 263, 264, 265, 266, 267, 268, 269, 270, 114, 47, 271, 272, 273, 274, 275, 276, 277, 278, 618, 619, 620, 621, 622, 623, 624, 625, 626, 627, 628, 629] (by decide +kernel) (by decide +kernel)
set_option maxRecDepth 20000 in
theorem gL_law_X2_pass : GoodIn wsL_law (wsV RL 115 RX2 yX2_pass wsX2_pass) := goodIn_app (goodIn_of _ (by decide +kernel)) ggL_law_X2_pass
set_option maxRecDepth 20000 in
theorem ggL_law_X1_hour : GoodIn wsL_law wsX1_hour := goodIn_r _ [282, 16, 616, 617, 630, 631, 632, 633, 634, 635, 636, 637, 638, 639, 640, 641, 642, 643, 644, 645] (by decide +kernel) (by decide +kernel)
set_option maxRecDepth 20000 in
theorem gL_law_X1_hour : GoodIn wsL_law (wsV RL 116 RX1 yX1_hour wsX1_hour) := goodIn_app (goodIn_of _ (by decide +kernel)) ggL_law_X1_hour
set_option maxRecDepth 20000 in
theorem ggL_law_X2_hour : GoodIn wsL_law wsX2_hour := goodIn_r _ [286, 48, 287, 288, 289, 5, 290, 73, 618, 619, 620, 621, 622, 623, 624, 625, 626, 627, 628, 629] (by decide +kernel) (by decide +kernel)
set_option maxRecDepth 20000 in
theorem gL_law_X2_hour : GoodIn wsL_law (wsV RL 119 RX2 yX2_hour wsX2_hour) := goodIn_app (goodIn_of _ (by decide +kernel)) ggL_law_X2_hour
set_option maxRecDepth 20000 in
theorem ggL_law_X1_stones : GoodIn wsL_law wsX1_stones := goodIn_r _ [294, 16, 616, 617, 630, 631, 632, 633, 634, 635, 636, 637, 638, 639, 640, 641, 642, 643, 644, 645] (by decide +kernel) (by decide +kernel)
set_option maxRecDepth 20000 in
theorem gL_law_X1_stones : GoodIn wsL_law (wsV RL 120 RX1 yX1_stones wsX1_stones) := goodIn_app (goodIn_of _ (by decide +kernel)) ggL_law_X1_stones
set_option maxRecDepth 20000 in
theorem ggL_law_X2_stones : GoodIn wsL_law wsX2_stones := goodIn_r _ [298, 74, 287, 288, 289, 5, 290, 73, 618, 619, 620, 621, 622, 623, 624, 625, 626, 627, 628, 629] (by decide +kernel) (by decide +kernel)
set_option maxRecDepth 20000 in
theorem gL_law_X2_stones : GoodIn wsL_law (wsV RL 123 RX2 yX2_stones wsX2_stones) := goodIn_app (goodIn_of _ (by decide +kernel)) ggL_law_X2_stones
set_option maxRecDepth 20000 in
theorem ggL_law_X1_sacks : GoodIn wsL_law wsX1_sacks := goodIn_r _ [302, 16, 616, 617, 630, 631, 632, 633, 634, 635, 636, 637, 638, 639, 640, 641, 642, 643, 644, 645] (by decide +kernel) (by decide +kernel)
set_option maxRecDepth 20000 in
theorem gL_law_X1_sacks : GoodIn wsL_law (wsV RL 124 RX1 yX1_sacks wsX1_sacks) := goodIn_app (goodIn_of _ (by decide +kernel)) ggL_law_X1_sacks
set_option maxRecDepth 20000 in
theorem ggL_law_X2_sacks : GoodIn wsL_law wsX2_sacks := goodIn_r _ [306, 148, 287, 288, 289, 5, 290, 73, 618, 619, 620, 621, 622, 623, 624, 625, 626, 627, 628, 629] (by decide +kernel) (by decide +kernel)
set_option maxRecDepth 20000 in
theorem gL_law_X2_sacks : GoodIn wsL_law (wsV RL 127 RX2 yX2_sacks wsX2_sacks) := goodIn_app (goodIn_of _ (by decide +kernel)) ggL_law_X2_sacks
set_option maxRecDepth 20000 in
theorem ggL_law_X1_rule : GoodIn wsL_law wsX1_rule := goodIn_r _ [310, 16, 616, 617, 630, 631, 632, 633, 634, 635, 636, 637, 638, 639, 640, 641, 642, 643, 644, 645] (by decide +kernel) (by decide +kernel)
set_option maxRecDepth 20000 in
theorem gL_law_X1_rule : GoodIn wsL_law (wsV RL 128 RX1 yX1_rule wsX1_rule) := goodIn_app (goodIn_of _ (by decide +kernel)) ggL_law_X1_rule
set_option maxRecDepth 20000 in
theorem ggL_law_X2_rule : GoodIn wsL_law wsX2_rule := goodIn_r _ [314, 114, 287, 288, 289, 5, 290, 73, 618, 619, 620, 621, 622, 623, 624, 625, 626, 627, 628, 629] (by decide +kernel) (by decide +kernel)
set_option maxRecDepth 20000 in
theorem gL_law_X2_rule : GoodIn wsL_law (wsV RL 131 RX2 yX2_rule wsX2_rule) := goodIn_app (goodIn_of _ (by decide +kernel)) ggL_law_X2_rule
set_option maxRecDepth 20000 in
theorem ggL_law_X1_wind : GoodIn wsL_law wsX1_wind := goodIn_r _ [318, 16, 319, 235, 236, 15, 237, 23, 33, 238, 239, 240, 241, 616, 617, 630, 631, 632, 633, 634, 635, 636, 637, 638, 639, 640, 641, 642, 643, 644, 645] (by decide +kernel) (by decide +kernel)
set_option maxRecDepth 20000 in
theorem gL_law_X1_wind : GoodIn wsL_law (wsV RL 132 RX1 yX1_wind wsX1_wind) := goodIn_app (goodIn_of _ (by decide +kernel)) ggL_law_X1_wind
set_option maxRecDepth 20000 in
theorem ggL_law_X2_wind : GoodIn wsL_law wsX2_wind := goodIn_r _ [323, 45, 48, 287, 288, 289, 5, 290, 73, 618, 619, 620, 621, 622, 623, 624, 625, 626, 627, 628, 629] (by decide +kernel) (by decide +kernel)
set_option maxRecDepth 20000 in
theorem gL_law_X2_wind : GoodIn wsL_law (wsV RL 135 RX2 yX2_wind wsX2_wind) := goodIn_app (goodIn_of _ (by decide +kernel)) ggL_law_X2_wind
set_option maxRecDepth 20000 in
theorem ggL_law_L_sackOn : GoodIn wsL_law wsL_sackOn := goodIn_ca (goodIn_r _ [326, 89, 327, 328, 329, 2, 330, 94, 95, 16, 616, 617, 630, 631, 632, 633, 634, 635, 636, 637, 638, 639, 640, 641, 642, 643, 644, 645] (by decide +kernel) (by decide +kernel)) (goodIn_sub (fun _ h => List.mem_append_right _ h) (by decide +kernel))
set_option maxRecDepth 20000 in
theorem gL_law_L_sackOn : GoodIn wsL_law (va_wsS RL 136 yL_sackOn wsL_sackOn) := goodIn_app (goodIn_of _ (by decide +kernel)) ggL_law_L_sackOn
set_option maxRecDepth 20000 in
theorem ggL_law_X2_sackOn : GoodIn wsL_law wsX2_sackOn := goodIn_r _ [334, 73, 335, 336, 337, 5, 338, 74, 75, 76, 77, 271, 272, 273, 274, 148, 48, 78, 79, 80, 81, 618, 619, 620, 621, 622, 623, 624, 625, 626, 627, 628, 629] (by decide +kernel) (by decide +kernel)
set_option maxRecDepth 20000 in
theorem gL_law_X2_sackOn : GoodIn wsL_law (wsV RL 138 RX2 yX2_sackOn wsX2_sackOn) := goodIn_app (goodIn_of _ (by decide +kernel)) ggL_law_X2_sackOn
set_option maxRecDepth 20000 in
theorem ggL_law_L_stoneOf : GoodIn wsL_law wsL_stoneOf := goodIn_ca (goodIn_r _ [341, 89, 342, 343, 344, 2, 345, 16, 160, 161, 162, 163, 94, 95, 616, 617, 630, 631, 632, 633, 634, 635, 636, 637, 638, 639, 640, 641, 642, 643, 644, 645] (by decide +kernel) (by decide +kernel)) (goodIn_sub (fun _ h => List.mem_append_right _ h) (by decide +kernel))
set_option maxRecDepth 20000 in
theorem gL_law_L_stoneOf : GoodIn wsL_law (va_wsS RL 139 yL_stoneOf wsL_stoneOf) := goodIn_app (goodIn_of _ (by decide +kernel)) ggL_law_L_stoneOf
set_option maxRecDepth 20000 in
theorem ggL_law_X2_stoneOf : GoodIn wsL_law wsX2_stoneOf := goodIn_r _ [349, 350, 351, 352, 5, 353, 73, 48, 172, 173, 174, 175, 148, 75, 76, 77, 78, 79, 80, 81, 618, 619, 620, 621, 622, 623, 624, 625, 626, 627, 628, 629] (by decide +kernel) (by decide +kernel)
set_option maxRecDepth 20000 in
theorem gL_law_X2_stoneOf : GoodIn wsL_law (wsV RL 141 RX2 yX2_stoneOf wsX2_stoneOf) := goodIn_app (goodIn_of _ (by decide +kernel)) ggL_law_X2_stoneOf
set_option maxRecDepth 20000 in
theorem ggL_law_L_leftOf : GoodIn wsL_law wsL_leftOf := goodIn_ca (goodIn_r _ [356, 89, 357, 358, 359, 2, 360, 16, 160, 161, 162, 163, 94, 95, 616, 617, 630, 631, 632, 633, 634, 635, 636, 637, 638, 639, 640, 641, 642, 643, 644, 645] (by decide +kernel) (by decide +kernel)) (goodIn_sub (fun _ h => List.mem_append_right _ h) (by decide +kernel))
set_option maxRecDepth 20000 in
theorem gL_law_L_leftOf : GoodIn wsL_law (va_wsS RL 142 yL_leftOf wsL_leftOf) := goodIn_app (goodIn_of _ (by decide +kernel)) ggL_law_L_leftOf
set_option maxRecDepth 20000 in
theorem ggL_law_X2_leftOf : GoodIn wsL_law wsX2_leftOf := goodIn_r _ [364, 350, 351, 352, 5, 353, 73, 48, 172, 173, 174, 175, 148, 75, 76, 77, 78, 79, 80, 81, 618, 619, 620, 621, 622, 623, 624, 625, 626, 627, 628, 629] (by decide +kernel) (by decide +kernel)
set_option maxRecDepth 20000 in
theorem gL_law_X2_leftOf : GoodIn wsL_law (wsV RL 144 RX2 yX2_leftOf wsX2_leftOf) := goodIn_app (goodIn_of _ (by decide +kernel)) ggL_law_X2_leftOf
set_option maxRecDepth 20000 in
theorem ggL_law_L_untilOf : GoodIn wsL_law wsL_untilOf := goodIn_ca (goodIn_r _ [367, 89, 368, 369, 370, 2, 371, 16, 160, 161, 162, 163, 94, 95, 616, 617, 630, 631, 632, 633, 634, 635, 636, 637, 638, 639, 640, 641, 642, 643, 644, 645] (by decide +kernel) (by decide +kernel)) (goodIn_sub (fun _ h => List.mem_append_right _ h) (by decide +kernel))
set_option maxRecDepth 20000 in
theorem gL_law_L_untilOf : GoodIn wsL_law (va_wsS RL 145 yL_untilOf wsL_untilOf) := goodIn_app (goodIn_of _ (by decide +kernel)) ggL_law_L_untilOf
set_option maxRecDepth 20000 in
theorem ggL_law_X2_untilOf : GoodIn wsL_law wsX2_untilOf := goodIn_r _ [375, 73, 47, 172, 173, 174, 5, 175, 148, 75, 76, 77, 78, 79, 80, 81, 618, 619, 620, 621, 622, 623, 624, 625, 626, 627, 628, 629] (by decide +kernel) (by decide +kernel)
set_option maxRecDepth 20000 in
theorem gL_law_X2_untilOf : GoodIn wsL_law (wsV RL 147 RX2 yX2_untilOf wsX2_untilOf) := goodIn_app (goodIn_of _ (by decide +kernel)) ggL_law_X2_untilOf
set_option maxRecDepth 20000 in
theorem ggL_law_L_groundAt : GoodIn wsL_law wsL_groundAt := goodIn_ca (goodIn_r _ [378, 89, 379, 380, 381, 2, 382, 16, 160, 161, 162, 163, 94, 95, 616, 617, 630, 631, 632, 633, 634, 635, 636, 637, 638, 639, 640, 641, 642, 643, 644, 645] (by decide +kernel) (by decide +kernel)) (goodIn_sub (fun _ h => List.mem_append_right _ h) (by decide +kernel))
set_option maxRecDepth 20000 in
theorem gL_law_L_groundAt : GoodIn wsL_law (va_wsS RL 148 yL_groundAt wsL_groundAt) := goodIn_app (goodIn_of _ (by decide +kernel)) ggL_law_L_groundAt
set_option maxRecDepth 20000 in
theorem ggL_law_X2_groundAt : GoodIn wsL_law wsX2_groundAt := goodIn_r _ [386, 350, 351, 352, 5, 353, 73, 48, 172, 173, 174, 175, 148, 75, 76, 77, 78, 79, 80, 81, 618, 619, 620, 621, 622, 623, 624, 625, 626, 627, 628, 629] (by decide +kernel) (by decide +kernel)
set_option maxRecDepth 20000 in
theorem gL_law_X2_groundAt : GoodIn wsL_law (wsV RL 150 RX2 yX2_groundAt wsX2_groundAt) := goodIn_app (goodIn_of _ (by decide +kernel)) ggL_law_X2_groundAt
set_option maxRecDepth 20000 in
theorem ggL_law_X1_ground : GoodIn wsL_law wsX1_ground := goodIn_r _ [390, 16, 616, 617, 630, 631, 632, 633, 634, 635, 636, 637, 638, 639, 640, 641, 642, 643, 644, 645] (by decide +kernel) (by decide +kernel)
set_option maxRecDepth 20000 in
theorem gL_law_X1_ground : GoodIn wsL_law (wsV RL 151 RX1 yX1_ground wsX1_ground) := goodIn_app (goodIn_of _ (by decide +kernel)) ggL_law_X1_ground
set_option maxRecDepth 20000 in
theorem ggL_law_X2_ground : GoodIn wsL_law wsX2_ground := goodIn_r _ [394, 395, 396, 397, 5, 398, 148, 263, 264, 265, 266, 48, 287, 288, 289, 290, 73, 618, 619, 620, 621, 622, 623, 624, 625, 626, 627, 628, 629] (by decide +kernel) (by decide +kernel)
set_option maxRecDepth 20000 in
theorem gL_law_X2_ground : GoodIn wsL_law (wsV RL 154 RX2 yX2_ground wsX2_ground) := goodIn_app (goodIn_of _ (by decide +kernel)) ggL_law_X2_ground
set_option maxRecDepth 20000 in
theorem ggL_law_X1_changes : GoodIn wsL_law wsX1_changes := goodIn_r _ [402, 16, 616, 617, 630, 631, 632, 633, 634, 635, 636, 637, 638, 639, 640, 641, 642, 643, 644, 645] (by decide +kernel) (by decide +kernel)
set_option maxRecDepth 20000 in
theorem gL_law_X1_changes : GoodIn wsL_law (wsV RL 155 RX1 yX1_changes wsX1_changes) := goodIn_app (goodIn_of _ (by decide +kernel)) ggL_law_X1_changes
set_option maxRecDepth 20000 in
theorem ggL_law_X2_changes : GoodIn wsL_law wsX2_changes := goodIn_r _ [406, 48, 287, 288, 289, 5, 290, 73, 618, 619, 620, 621, 622, 623, 624, 625, 626, 627, 628, 629] (by decide +kernel) (by decide +kernel)
set_option maxRecDepth 20000 in
theorem gL_law_X2_changes : GoodIn wsL_law (wsV RL 158 RX2 yX2_changes wsX2_changes) := goodIn_app (goodIn_of _ (by decide +kernel)) ggL_law_X2_changes
set_option maxRecDepth 20000 in
theorem ggL_law_X1_first : GoodIn wsL_law wsX1_first := goodIn_r _ [410, 16, 411, 223, 224, 15, 225, 35, 31, 209, 210, 211, 212, 29, 213, 214, 215, 216, 38, 30, 616, 617, 630, 631, 632, 633, 634, 635, 636, 637, 638, 639, 640, 641, 642, 643, 644, 645] (by decide +kernel) (by decide +kernel)
set_option maxRecDepth 20000 in
theorem gL_law_X1_first : GoodIn wsL_law (wsV RL 159 RX1 yX1_first wsX1_first) := goodIn_app (goodIn_of _ (by decide +kernel)) ggL_law_X1_first
set_option maxRecDepth 20000 in
theorem ggL_law_X2_first : GoodIn wsL_law wsX2_first := goodIn_r _ [415, 275, 276, 277, 5, 278, 148, 48, 263, 264, 265, 266, 267, 268, 269, 270, 114, 47, 287, 288, 289, 290, 73, 618, 619, 620, 621, 622, 623, 624, 625, 626, 627, 628, 629] (by decide +kernel) (by decide +kernel)
set_option maxRecDepth 20000 in
theorem gL_law_X2_first : GoodIn wsL_law (wsV RL 162 RX2 yX2_first wsX2_first) := goodIn_app (goodIn_of _ (by decide +kernel)) ggL_law_X2_first
set_option maxRecDepth 20000 in
theorem ggL_law_L_placeOf : GoodIn wsL_law wsL_placeOf := goodIn_ca (goodIn_r _ [418, 89, 419, 420, 421, 2, 422, 16, 160, 161, 162, 163, 94, 95, 423, 210, 211, 15, 212, 29, 424, 206, 207, 208, 35, 209, 213, 214, 215, 216, 38, 30, 616, 617, 630, 631, 632, 633, 634, 635, 636, 637, 638, 639, 640, 641, 642, 643, 644, 645] (by decide +kernel) (by decide +kernel)) (goodIn_sub (fun _ h => List.mem_append_right _ h) (by decide +kernel))
set_option maxRecDepth 20000 in
theorem gL_law_L_placeOf : GoodIn wsL_law (va_wsS RL 163 yL_placeOf wsL_placeOf) := goodIn_app (goodIn_of _ (by decide +kernel)) ggL_law_L_placeOf
set_option maxRecDepth 20000 in
theorem ggL_law_X2_placeOf : GoodIn wsL_law wsX2_placeOf := goodIn_r _ [428, 73, 172, 173, 174, 5, 175, 148, 75, 76, 77, 429, 430, 431, 432, 263, 264, 265, 266, 48, 259, 260, 261, 262, 267, 268, 269, 270, 114, 47, 78, 79, 80, 81, 618, 619, 620, 621, 622, 623, 624, 625, 626, 627, 628, 629] (by decide +kernel) (by decide +kernel)
set_option maxRecDepth 20000 in
theorem gL_law_X2_placeOf : GoodIn wsL_law (wsV RL 165 RX2 yX2_placeOf wsX2_placeOf) := goodIn_app (goodIn_of _ (by decide +kernel)) ggL_law_X2_placeOf
set_option maxRecDepth 20000 in
theorem ggL_law_L_leftFor : GoodIn wsL_law wsL_leftFor := goodIn_ca (goodIn_r _ [435, 55, 436, 437, 438, 2, 439, 16, 131, 132, 133, 61, 62, 616, 617, 630, 631, 632, 633, 634, 635, 636, 637, 638, 639, 640, 641, 642, 643, 644, 645] (by decide +kernel) (by decide +kernel)) (goodIn_sub (fun _ h => List.mem_append_left _ (List.mem_append_left _ (List.mem_append_right _ h))) (by decide +kernel))
set_option maxRecDepth 20000 in
theorem gL_law_L_leftFor : GoodIn wsL_law (va_wsS RL 166 yL_leftFor wsL_leftFor) := goodIn_app (goodIn_of _ (by decide +kernel)) ggL_law_L_leftFor
set_option maxRecDepth 20000 in
theorem ggL_law_X2_leftFor : GoodIn wsL_law wsX2_leftFor := goodIn_r _ [443, 73, 75, 76, 5, 77, 444, 445, 446, 447, 148, 46, 48, 78, 79, 80, 81, 618, 619, 620, 621, 622, 623, 624, 625, 626, 627, 628, 629] (by decide +kernel) (by decide +kernel)
set_option maxRecDepth 20000 in
theorem gL_law_X2_leftFor : GoodIn wsL_law (wsV RL 168 RX2 yX2_leftFor wsX2_leftFor) := goodIn_app (goodIn_of _ (by decide +kernel)) ggL_law_X2_leftFor
set_option maxRecDepth 20000 in
theorem ggL_law_X1_late : GoodIn wsL_law wsX1_late := goodIn_r _ [451, 16, 452, 453, 454, 15, 455, 35, 32, 30, 456, 457, 232, 458, 209, 210, 211, 212, 29, 616, 617, 630, 631, 632, 633, 634, 635, 636, 637, 638, 639, 640, 641, 642, 643, 644, 645] (by decide +kernel) (by decide +kernel)
set_option maxRecDepth 20000 in
theorem gL_law_X1_late : GoodIn wsL_law (wsV RL 169 RX1 yX1_late wsX1_late) := goodIn_app (goodIn_of _ (by decide +kernel)) ggL_law_X1_late
set_option maxRecDepth 20000 in
theorem ggL_law_X2_late : GoodIn wsL_law wsX2_late := goodIn_r _ [462, 463, 464, 465, 5, 466, 148, 48, 47, 467, 457, 232, 458, 263, 264, 265, 266, 287, 288, 289, 290, 73, 618, 619, 620, 621, 622, 623, 624, 625, 626, 627, 628, 629] (by decide +kernel) (by decide +kernel)
set_option maxRecDepth 20000 in
theorem gL_law_X2_late : GoodIn wsL_law (wsV RL 172 RX2 yX2_late wsX2_late) := goodIn_app (goodIn_of _ (by decide +kernel)) ggL_law_X2_late
set_option maxRecDepth 20000 in
theorem ggL_law_L_willBeGroundAt : GoodIn wsL_law wsL_willBeGroundAt := goodIn_ca (goodIn_r _ [470, 89, 471, 472, 473, 2, 474, 17, 160, 161, 162, 163, 94, 95, 16, 475, 476, 477, 478, 479, 480, 481, 15, 482, 23, 24, 25, 28, 29, 30, 31, 32, 33, 34, 35, 36, 37, 38, 39, 483, 484, 485, 197, 198, 199, 200, 201, 202, 203, 204, 205, 206, 207, 208, 209, 210, 211, 212, 213, 214, 215, 216, 217, 165, 166, 167, 218, 219, 220, 221, 27, 222, 223, 224, 225, 226, 227, 228, 229, 230, 231, 232, 233, 234, 235, 236, 237, 238, 239, 240, 241, 242, 243, 244, 245, 616, 617, 630, 631, 632, 633, 634, 635, 636, 637, 638, 639, 640, 641, 642, 643, 644, 645] (by decide +kernel) (by decide +kernel)) (goodIn_sub (fun _ h => List.mem_append_right _ h) (by decide +kernel))
set_option maxRecDepth 20000 in
theorem gL_law_L_willBeGroundAt : GoodIn wsL_law (va_wsS RL 173 yL_willBeGroundAt wsL_willBeGroundAt) := goodIn_app (goodIn_of _ (by decide +kernel)) ggL_law_L_willBeGroundAt
set_option maxRecDepth 20000 in
theorem ggL_law_X2_willBeGroundAt : GoodIn wsL_law wsX2_willBeGroundAt := goodIn_r _ [489, 73, 172, 173, 174, 5, 175, 148, 75, 76, 77, 490, 491, 492, 493, 48, 494, 495, 496, 497, 49, 498, 499, 500, 501, 250, 251, 252, 253, 254, 255, 256, 257, 123, 74, 50, 45, 44, 258, 231, 232, 233, 259, 260, 261, 262, 263, 264, 265, 266, 267, 268, 269, 270, 114, 47, 271, 272, 273, 274, 275, 276, 277, 278, 502, 503, 504, 505, 78, 79, 80, 81, 618, 619, 620, 621, 622, 623, 624, 625, 626, 627, 628, 629] (by decide +kernel) (by decide +kernel)
set_option maxRecDepth 20000 in
theorem gL_law_X2_willBeGroundAt : GoodIn wsL_law (wsV RL 175 RX2 yX2_willBeGroundAt wsX2_willBeGroundAt) := goodIn_app (goodIn_of _ (by decide +kernel)) ggL_law_X2_willBeGroundAt
set_option maxRecDepth 20000 in
theorem ggL_law_L_spareOf : GoodIn wsL_law wsL_spareOf := goodIn_ca (goodIn_r _ [508, 89, 509, 510, 511, 2, 512, 17, 160, 161, 162, 163, 94, 95, 16, 475, 476, 477, 478, 479, 480, 481, 15, 482, 23, 24, 25, 28, 29, 30, 31, 32, 33, 34, 35, 36, 37, 38, 39, 483, 484, 485, 197, 198, 199, 200, 201, 202, 203, 204, 205, 206, 207, 208, 209, 210, 211, 212, 213, 214, 215, 216, 217, 165, 166, 167, 218, 219, 220, 221, 27, 222, 223, 224, 225, 226, 227, 228, 229, 230, 231, 232, 233, 234, 235, 236, 237, 238, 239, 240, 241, 242, 243, 244, 245, 423, 616, 617, 630, 631, 632, 633, 634, 635, 636, 637, 638, 639, 640, 641, 642, 643, 644, 645] (by decide +kernel) (by decide +kernel)) (goodIn_sub (fun _ h => List.mem_append_right _ h) (by decide +kernel))
set_option maxRecDepth 20000 in
theorem gL_law_L_spareOf : GoodIn wsL_law (va_wsS RL 176 yL_spareOf wsL_spareOf) := goodIn_app (goodIn_of _ (by decide +kernel)) ggL_law_L_spareOf
set_option maxRecDepth 20000 in
theorem ggL_law_X2_spareOf : GoodIn wsL_law wsX2_spareOf := goodIn_r _ [516, 73, 47, 172, 173, 174, 5, 175, 148, 75, 76, 77, 78, 79, 80, 81, 490, 491, 492, 493, 48, 494, 495, 496, 497, 49, 498, 499, 500, 501, 250, 251, 252, 253, 254, 255, 256, 257, 123, 74, 50, 45, 44, 258, 231, 232, 233, 259, 260, 261, 262, 263, 264, 265, 266, 267, 268, 269, 270, 114, 271, 272, 273, 274, 275, 276, 277, 278, 502, 503, 504, 505, 618, 619, 620, 621, 622, 623, 624, 625, 626, 627, 628, 629] (by decide +kernel) (by decide +kernel)
set_option maxRecDepth 20000 in
theorem gL_law_X2_spareOf : GoodIn wsL_law (wsV RL 178 RX2 yX2_spareOf wsX2_spareOf) := goodIn_app (goodIn_of _ (by decide +kernel)) ggL_law_X2_spareOf
set_option maxRecDepth 20000 in
theorem ggL_law_L_lateWith : GoodIn wsL_law wsL_lateWith := goodIn_ca (goodIn_r _ [519, 55, 520, 521, 522, 2, 523, 17, 16, 107, 108, 109, 61, 62, 479, 480, 481, 15, 482, 23, 24, 25, 28, 29, 30, 31, 32, 33, 34, 35, 36, 37, 38, 39, 483, 484, 485, 197, 198, 199, 200, 201, 202, 203, 204, 205, 206, 207, 208, 209, 210, 211, 212, 213, 214, 215, 216, 217, 165, 166, 167, 218, 219, 220, 221, 27, 222, 223, 224, 225, 226, 227, 228, 229, 230, 231, 232, 233, 234, 235, 236, 237, 238, 239, 240, 241, 242, 243, 244, 245, 452, 453, 454, 455, 456, 457, 458, 616, 617, 630, 631, 632, 633, 634, 635, 636, 637, 638, 639, 640, 641, 642, 643, 644, 645] (by decide +kernel) (by decide +kernel)) (goodIn_sub (fun _ h => List.mem_append_left _ (List.mem_append_left _ (List.mem_append_right _ h))) (by decide +kernel))
set_option maxRecDepth 20000 in
theorem gL_law_L_lateWith : GoodIn wsL_law (va_wsS RL 179 yL_lateWith wsL_lateWith) := goodIn_app (goodIn_of _ (by decide +kernel)) ggL_law_L_lateWith
set_option maxRecDepth 20000 in
theorem ggL_law_X2_lateWith : GoodIn wsL_law wsX2_lateWith := goodIn_r _ [527, 73, 75, 76, 5, 77, 528, 529, 530, 531, 114, 123, 494, 495, 496, 497, 48, 49, 498, 499, 500, 501, 250, 251, 252, 253, 254, 255, 256, 257, 148, 74, 50, 45, 44, 258, 231, 232, 233, 259, 260, 261, 262, 263, 264, 265, 266, 267, 268, 269, 270, 47, 271, 272, 273, 274, 275, 276, 277, 278, 463, 464, 465, 466, 467, 457, 458, 502, 503, 504, 505, 78, 79, 80, 81, 618, 619, 620, 621, 622, 623, 624, 625, 626, 627, 628, 629] (by decide +kernel) (by decide +kernel)
set_option maxRecDepth 20000 in
theorem gL_law_X2_lateWith : GoodIn wsL_law (wsV RL 182 RX2 yX2_lateWith wsX2_lateWith) := goodIn_app (goodIn_of _ (by decide +kernel)) ggL_law_X2_lateWith
set_option maxRecDepth 20000 in
theorem ggL_law_X1_bestRule : GoodIn wsL_law wsX1_bestRule := goodIn_ca (goodIn_r _ [535, 16, 536, 521, 522, 2, 523, 17, 107, 108, 109, 61, 62, 479, 480, 481, 15, 482, 23, 24, 25, 28, 29, 30, 31, 32, 33, 34, 35, 36, 37, 38, 39, 483, 484, 485, 197, 198, 199, 200, 201, 202, 203, 204, 205, 206, 207, 208, 209, 210, 211, 212, 213, 214, 215, 216, 217, 165, 166, 167, 218, 219, 220, 221, 27, 222, 223, 224, 225, 226, 227, 228, 229, 230, 231, 232, 233, 234, 235, 236, 237, 238, 239, 240, 241, 242, 243, 244, 245, 452, 453, 454, 455, 456, 457, 458, 616, 617, 630, 631, 632, 633, 634, 635, 636, 637, 638, 639, 640, 641, 642, 643, 644, 645] (by decide +kernel) (by decide +kernel)) (goodIn_sub (fun _ h => List.mem_append_left _ (List.mem_append_left _ (List.mem_append_right _ h))) (by decide +kernel))
set_option maxRecDepth 20000 in
theorem gL_law_X1_bestRule : GoodIn wsL_law (wsV RL 183 RX1 yX1_bestRule wsX1_bestRule) := goodIn_app (goodIn_of _ (by decide +kernel)) ggL_law_X1_bestRule
set_option maxRecDepth 20000 in
theorem ggL_law_X2_bestRule : GoodIn wsL_law wsX2_bestRule := goodIn_r _ [540, 541, 542, 543, 5, 544, 123, 528, 529, 530, 531, 114, 494, 495, 496, 497, 48, 49, 498, 499, 500, 501, 250, 251, 252, 253, 254, 255, 256, 257, 148, 74, 50, 45, 44, 258, 231, 232, 233, 259, 260, 261, 262, 263, 264, 265, 266, 267, 268, 269, 270, 47, 271, 272, 273, 274, 275, 276, 277, 278, 463, 464, 465, 466, 467, 457, 458, 502, 503, 504, 505, 287, 288, 289, 290, 73, 618, 619, 620, 621, 622, 623, 624, 625, 626, 627, 628, 629] (by decide +kernel) (by decide +kernel)
set_option maxRecDepth 20000 in
theorem gL_law_X2_bestRule : GoodIn wsL_law (wsV RL 186 RX2 yX2_bestRule wsX2_bestRule) := goodIn_app (goodIn_of _ (by decide +kernel)) ggL_law_X2_bestRule
set_option maxRecDepth 20000 in
theorem ggL_law_L_wouldBeInTime : GoodIn wsL_law wsL_wouldBeInTime := goodIn_ca (goodIn_r _ [547, 55, 548, 549, 550, 2, 551, 16, 17, 134, 135, 136, 61, 62, 137, 138, 139, 479, 480, 481, 15, 482, 23, 24, 25, 28, 29, 30, 31, 32, 33, 34, 35, 36, 37, 38, 39, 483, 484, 485, 140, 141, 142, 143, 197, 198, 199, 200, 201, 202, 203, 204, 205, 206, 207, 208, 209, 210, 211, 212, 213, 214, 215, 216, 217, 165, 166, 167, 218, 219, 220, 221, 27, 222, 223, 224, 225, 226, 227, 228, 229, 230, 231, 232, 233, 234, 235, 236, 237, 238, 239, 240, 241, 242, 243, 244, 245, 423, 616, 617, 630, 631, 632, 633, 634, 635, 636, 637, 638, 639, 640, 641, 642, 643, 644, 645] (by decide +kernel) (by decide +kernel)) (goodIn_sub (fun _ h => List.mem_append_left _ (List.mem_append_left _ (List.mem_append_right _ h))) (by decide +kernel))
set_option maxRecDepth 20000 in
theorem gL_law_L_wouldBeInTime : GoodIn wsL_law (va_wsS RL 187 yL_wouldBeInTime wsL_wouldBeInTime) := goodIn_app (goodIn_of _ (by decide +kernel)) ggL_law_L_wouldBeInTime
set_option maxRecDepth 20000 in
theorem ggL_law_X2_wouldBeInTime : GoodIn wsL_law wsX2_wouldBeInTime := goodIn_r _ [555, 73, 148, 48, 75, 76, 5, 77, 494, 495, 496, 497, 49, 498, 499, 500, 501, 149, 150, 151, 152, 46, 47, 250, 251, 252, 253, 254, 255, 256, 257, 123, 74, 50, 45, 44, 258, 231, 232, 233, 259, 260, 261, 262, 263, 264, 265, 266, 267, 268, 269, 270, 114, 271, 272, 273, 274, 275, 276, 277, 278, 502, 503, 504, 505, 618, 619, 620, 621, 622, 623, 624, 625, 626, 627, 628, 629] (by decide +kernel) (by decide +kernel)
set_option maxRecDepth 20000 in
theorem gL_law_X2_wouldBeInTime : GoodIn wsL_law (wsV RL 189 RX2 yX2_wouldBeInTime wsX2_wouldBeInTime) := goodIn_app (goodIn_of _ (by decide +kernel)) ggL_law_X2_wouldBeInTime
set_option maxRecDepth 20000 in
theorem ggL_law_L_groundIn : GoodIn wsL_law wsL_groundIn := goodIn_ca (goodIn_r _ [558, 55, 559, 560, 561, 2, 562, 17, 16, 194, 195, 196, 61, 62, 479, 480, 481, 15, 482, 23, 24, 25, 28, 29, 30, 31, 32, 33, 34, 35, 36, 37, 38, 39, 483, 484, 485, 197, 198, 199, 200, 201, 202, 203, 204, 205, 206, 207, 208, 209, 210, 211, 212, 213, 214, 215, 216, 217, 165, 166, 167, 218, 219, 220, 221, 27, 222, 223, 224, 225, 226, 227, 228, 229, 230, 231, 232, 233, 234, 235, 236, 237, 238, 239, 240, 241, 242, 243, 244, 245, 616, 617, 630, 631, 632, 633, 634, 635, 636, 637, 638, 639, 640, 641, 642, 643, 644, 645] (by decide +kernel) (by decide +kernel)) (goodIn_sub (fun _ h => List.mem_append_left _ (List.mem_append_left _ (List.mem_append_right _ h))) (by decide +kernel))
set_option maxRecDepth 20000 in
theorem gL_law_L_groundIn : GoodIn wsL_law (va_wsS RL 190 yL_groundIn wsL_groundIn) := goodIn_app (goodIn_of _ (by decide +kernel)) ggL_law_L_groundIn
set_option maxRecDepth 20000 in
theorem ggL_law_X2_groundIn : GoodIn wsL_law wsX2_groundIn := goodIn_r _ [566, 73, 75, 76, 5, 77, 567, 568, 569, 570, 48, 494, 495, 496, 497, 49, 498, 499, 500, 501, 250, 251, 252, 253, 254, 255, 256, 257, 148, 123, 74, 50, 45, 44, 258, 231, 232, 233, 259, 260, 261, 262, 263, 264, 265, 266, 267, 268, 269, 270, 114, 47, 271, 272, 273, 274, 275, 276, 277, 278, 502, 503, 504, 505, 78, 79, 80, 81, 618, 619, 620, 621, 622, 623, 624, 625, 626, 627, 628, 629] (by decide +kernel) (by decide +kernel)
set_option maxRecDepth 20000 in
theorem gL_law_X2_groundIn : GoodIn wsL_law (wsV RL 192 RX2 yX2_groundIn wsX2_groundIn) := goodIn_app (goodIn_of _ (by decide +kernel)) ggL_law_X2_groundIn
set_option maxRecDepth 20000 in
theorem ggL_law_X1_meanLeft : GoodIn wsL_law wsX1_meanLeft := goodIn_r _ [574, 16, 616, 617, 630, 631, 632, 633, 634, 635, 636, 637, 638, 639, 640, 641, 642, 643, 644, 645] (by decide +kernel) (by decide +kernel)
set_option maxRecDepth 20000 in
theorem gL_law_X1_meanLeft : GoodIn wsL_law (wsV RL 193 RX1 yX1_meanLeft wsX1_meanLeft) := goodIn_app (goodIn_of _ (by decide +kernel)) ggL_law_X1_meanLeft
set_option maxRecDepth 20000 in
theorem ggL_law_X2_meanLeft : GoodIn wsL_law wsX2_meanLeft := goodIn_r _ [578, 73, 148, 48, 395, 396, 397, 5, 398, 263, 264, 265, 266, 618, 619, 620, 621, 622, 623, 624, 625, 626, 627, 628, 629] (by decide +kernel) (by decide +kernel)
set_option maxRecDepth 20000 in
theorem gL_law_X2_meanLeft : GoodIn wsL_law (wsV RL 197 RX2 yX2_meanLeft wsX2_meanLeft) := goodIn_app (goodIn_of _ (by decide +kernel)) ggL_law_X2_meanLeft
set_option maxRecDepth 20000 in
theorem ggL_law_X1_digest : GoodIn wsL_law wsX1_digest := goodIn_ca (goodIn_ca (goodIn_r _ [582, 583, 16, 584, 280, 281, 2, 282, 585, 586, 587, 588, 589, 292, 293, 294, 590, 300, 301, 302, 591, 308, 309, 310, 592, 316, 317, 318, 319, 235, 236, 15, 237, 23, 33, 238, 239, 240, 241, 593, 388, 389, 390, 594, 400, 401, 402, 595, 408, 409, 410, 411, 223, 224, 225, 35, 31, 209, 210, 211, 212, 29, 213, 214, 215, 216, 38, 30, 596, 449, 450, 451, 452, 453, 454, 455, 32, 456, 457, 232, 458, 597, 533, 534, 535, 536, 521, 522, 523, 17, 107, 108, 109, 61, 62, 479, 480, 481, 482, 24, 25, 28, 34, 36, 37, 39, 483, 484, 485, 197, 198, 199, 200, 201, 202, 203, 204, 205, 206, 207, 208, 217, 165, 166, 167, 218, 219, 220, 221, 27, 222, 226, 227, 228, 229, 230, 231, 233, 234, 242, 243, 244, 245, 598, 560, 561, 562, 194, 195, 196, 599, 328, 329, 330, 94, 95, 600, 601, 602, 603, 475, 476, 477, 478, 604, 343, 344, 345, 160, 161, 162, 163, 605, 358, 359, 360, 606, 369, 370, 371, 607, 380, 381, 382, 608, 420, 421, 422, 423, 424, 609, 437, 438, 439, 131, 132, 133, 616, 617, 630, 631, 632, 633, 634, 635, 636, 637, 638, 639, 640, 641, 642, 643, 644, 645] (by decide +kernel) (by decide +kernel)) (goodIn_sub (fun _ h => List.mem_append_left _ (List.mem_append_left _ (List.mem_append_right _ h))) (by decide +kernel))) (goodIn_sub (fun _ h => List.mem_append_right _ h) (by decide +kernel))
set_option maxRecDepth 20000 in
theorem gL_law_X1_digest : GoodIn wsL_law (wsV RL 198 RX1 yX1_digest wsX1_digest) := goodIn_app (goodIn_of _ (by decide +kernel)) ggL_law_X1_digest
set_option maxRecDepth 20000 in
theorem ggL_law_X2_digest : GoodIn wsL_law wsX2_digest := goodIn_r _ [613, 73, 22, 48, 74, 148, 114, 45, 614, 615, 47, 395, 396, 397, 5, 398, 263, 264, 265, 266, 275, 276, 277, 278, 267, 268, 269, 270, 463, 464, 465, 466, 467, 457, 232, 458, 541, 542, 543, 544, 123, 528, 529, 530, 531, 494, 495, 496, 497, 49, 498, 499, 500, 501, 250, 251, 252, 253, 254, 255, 256, 257, 50, 44, 258, 231, 233, 259, 260, 261, 262, 271, 272, 273, 274, 502, 503, 504, 505, 567, 568, 569, 570, 429, 430, 431, 432, 444, 445, 446, 447, 46, 618, 619, 620, 621, 622, 623, 624, 625, 626, 627, 628, 629] (by decide +kernel) (by decide +kernel)
set_option maxRecDepth 20000 in
theorem gL_law_X2_digest : GoodIn wsL_law (wsV RL 202 RX2 yX2_digest wsX2_digest) := goodIn_app (goodIn_of _ (by decide +kernel)) ggL_law_X2_digest
theorem dL_law_0 : decode cL_law 0 = .ok (.new 8, 3) := by decide +kernel
theorem dL_law_3 : decode cL_law 3 = .ok (.dup, 1) := by decide +kernel
theorem dL_law_4 : decode cL_law 4 = .ok (.invokespecial 77, 3) := by decide +kernel
theorem dL_law_7 : decode cL_law 7 = .ok (.astore_n 1, 1) := by decide +kernel
theorem dL_law_8 : decode cL_law 8 = .ok (.new 78, 3) := by decide +kernel
theorem dL_law_11 : decode cL_law 11 = .ok (.dup, 1) := by decide +kernel
theorem dL_law_12 : decode cL_law 12 = .ok (.invokespecial 80, 3) := by decide +kernel
theorem dL_law_15 : decode cL_law 15 = .ok (.astore_n 2, 1) := by decide +kernel
theorem dL_law_16 : decode cL_law 16 = .ok (.iconst 1, 1) := by decide +kernel
theorem dL_law_17 : decode cL_law 17 = .ok (.newarray .long, 2) := by decide +kernel
theorem dL_law_19 : decode cL_law 19 = .ok (.astore_n 3, 1) := by decide +kernel
theorem dL_law_20 : decode cL_law 20 = .ok (.iconst 0, 1) := by decide +kernel
theorem dL_law_21 : decode cL_law 21 = .ok (.istore 4, 2) := by decide +kernel
theorem dL_law_23 : decode cL_law 23 = .ok (.iload 4, 2) := by decide +kernel
theorem dL_law_25 : decode cL_law 25 = .ok (.aload_n 0, 1) := by decide +kernel
theorem dL_law_26 : decode cL_law 26 = .ok (.arraylength, 1) := by decide +kernel
theorem dL_law_27 : decode cL_law 27 = .ok (.iconst 4, 1) := by decide +kernel
theorem dL_law_28 : decode cL_law 28 = .ok (.isub, 1) := by decide +kernel
theorem dL_law_29 : decode cL_law 29 = .ok (.if_icmp .gt 1542, 3) := by decide +kernel
theorem dL_law_32 : decode cL_law 32 = .ok (.aload_n 0, 1) := by decide +kernel
theorem dL_law_33 : decode cL_law 33 = .ok (.iload 4, 2) := by decide +kernel
theorem dL_law_35 : decode cL_law 35 = .ok (.iaload, 1) := by decide +kernel
theorem dL_law_36 : decode cL_law 36 = .ok (.bipush 31, 2) := by decide +kernel
theorem dL_law_38 : decode cL_law 38 = .ok (.iand, 1) := by decide +kernel
theorem dL_law_39 : decode cL_law 39 = .ok (.tableswitch 1526 0 31 #[141, 197, 265, 321, 362, 442, 498, 566, 622, 635, 648, 661, 674, 687, 743, 799, 855, 911, 967, 980, 993, 1006, 1062, 1118, 1131, 1187, 1243, 1327, 1340, 1415, 1471, 1512], 141) := by decide +kernel
theorem dL_law_180 : decode cL_law 180 = .ok (.aload_n 1, 1) := by decide +kernel
theorem dL_law_181 : decode cL_law 181 = .ok (.aload_n 0, 1) := by decide +kernel
theorem dL_law_182 : decode cL_law 182 = .ok (.iload 4, 2) := by decide +kernel
theorem dL_law_184 : decode cL_law 184 = .ok (.iconst 1, 1) := by decide +kernel
theorem dL_law_185 : decode cL_law 185 = .ok (.iadd, 1) := by decide +kernel
theorem dL_law_186 : decode cL_law 186 = .ok (.iaload, 1) := by decide +kernel
theorem dL_law_187 : decode cL_law 187 = .ok (.aload_n 3, 1) := by decide +kernel
theorem dL_law_188 : decode cL_law 188 = .ok (.invokestatic 81, 3) := by decide +kernel
theorem dL_law_191 : decode cL_law 191 = .ok (.istore 5, 2) := by decide +kernel
theorem dL_law_193 : decode cL_law 193 = .ok (.aload_n 2, 1) := by decide +kernel
theorem dL_law_194 : decode cL_law 194 = .ok (.aload_n 0, 1) := by decide +kernel
theorem dL_law_195 : decode cL_law 195 = .ok (.iload 4, 2) := by decide +kernel
theorem dL_law_197 : decode cL_law 197 = .ok (.iconst 1, 1) := by decide +kernel
theorem dL_law_198 : decode cL_law 198 = .ok (.iadd, 1) := by decide +kernel
theorem dL_law_199 : decode cL_law 199 = .ok (.iaload, 1) := by decide +kernel
theorem dL_law_200 : decode cL_law 200 = .ok (.invokevirtual 86, 3) := by decide +kernel
theorem dL_law_203 : decode cL_law 203 = .ok (.istore 6, 2) := by decide +kernel
theorem dL_law_205 : decode cL_law 205 = .ok (.aload_n 2, 1) := by decide +kernel
theorem dL_law_206 : decode cL_law 206 = .ok (.invokevirtual 87, 3) := by decide +kernel
theorem dL_law_209 : decode cL_law 209 = .ok (.iload 5, 2) := by decide +kernel
theorem dL_law_211 : decode cL_law 211 = .ok (.if_icmp .eq 5, 3) := by decide +kernel
theorem dL_law_214 : decode cL_law 214 = .ok (.iconst 0, 1) := by decide +kernel
theorem dL_law_215 : decode cL_law 215 = .ok (.ireturn, 1) := by decide +kernel
theorem dL_law_216 : decode cL_law 216 = .ok (.iload 5, 2) := by decide +kernel
theorem dL_law_218 : decode cL_law 218 = .ok (.ifCond .ne 15, 3) := by decide +kernel
theorem dL_law_221 : decode cL_law 221 = .ok (.aload_n 3, 1) := by decide +kernel
theorem dL_law_222 : decode cL_law 222 = .ok (.iconst 0, 1) := by decide +kernel
theorem dL_law_223 : decode cL_law 223 = .ok (.laload, 1) := by decide +kernel
theorem dL_law_224 : decode cL_law 224 = .ok (.iload 6, 2) := by decide +kernel
theorem dL_law_226 : decode cL_law 226 = .ok (.i2l, 1) := by decide +kernel
theorem dL_law_227 : decode cL_law 227 = .ok (.lcmp, 1) := by decide +kernel
theorem dL_law_228 : decode cL_law 228 = .ok (.ifCond .eq 5, 3) := by decide +kernel
theorem dL_law_231 : decode cL_law 231 = .ok (.iconst 0, 1) := by decide +kernel
theorem dL_law_232 : decode cL_law 232 = .ok (.ireturn, 1) := by decide +kernel
theorem dL_law_233 : decode cL_law 233 = .ok (.goto 1332, 3) := by decide +kernel
theorem dL_law_236 : decode cL_law 236 = .ok (.aload_n 1, 1) := by decide +kernel
theorem dL_law_237 : decode cL_law 237 = .ok (.aload_n 0, 1) := by decide +kernel
theorem dL_law_238 : decode cL_law 238 = .ok (.iload 4, 2) := by decide +kernel
theorem dL_law_240 : decode cL_law 240 = .ok (.iconst 1, 1) := by decide +kernel
theorem dL_law_241 : decode cL_law 241 = .ok (.iadd, 1) := by decide +kernel
theorem dL_law_242 : decode cL_law 242 = .ok (.iaload, 1) := by decide +kernel
theorem dL_law_243 : decode cL_law 243 = .ok (.aload_n 0, 1) := by decide +kernel
theorem dL_law_244 : decode cL_law 244 = .ok (.iload 4, 2) := by decide +kernel
theorem dL_law_246 : decode cL_law 246 = .ok (.iconst 2, 1) := by decide +kernel
theorem dL_law_247 : decode cL_law 247 = .ok (.iadd, 1) := by decide +kernel
theorem dL_law_248 : decode cL_law 248 = .ok (.iaload, 1) := by decide +kernel
theorem dL_law_249 : decode cL_law 249 = .ok (.aload_n 3, 1) := by decide +kernel
theorem dL_law_250 : decode cL_law 250 = .ok (.invokestatic 91, 3) := by decide +kernel
theorem dL_law_253 : decode cL_law 253 = .ok (.istore 5, 2) := by decide +kernel
theorem dL_law_255 : decode cL_law 255 = .ok (.aload_n 2, 1) := by decide +kernel
theorem dL_law_256 : decode cL_law 256 = .ok (.aload_n 0, 1) := by decide +kernel
theorem dL_law_257 : decode cL_law 257 = .ok (.iload 4, 2) := by decide +kernel
theorem dL_law_259 : decode cL_law 259 = .ok (.iconst 1, 1) := by decide +kernel
theorem dL_law_260 : decode cL_law 260 = .ok (.iadd, 1) := by decide +kernel
theorem dL_law_261 : decode cL_law 261 = .ok (.iaload, 1) := by decide +kernel
theorem dL_law_262 : decode cL_law 262 = .ok (.aload_n 0, 1) := by decide +kernel
theorem dL_law_263 : decode cL_law 263 = .ok (.iload 4, 2) := by decide +kernel
theorem dL_law_265 : decode cL_law 265 = .ok (.iconst 2, 1) := by decide +kernel
theorem dL_law_266 : decode cL_law 266 = .ok (.iadd, 1) := by decide +kernel
theorem dL_law_267 : decode cL_law 267 = .ok (.iaload, 1) := by decide +kernel
theorem dL_law_268 : decode cL_law 268 = .ok (.invokevirtual 94, 3) := by decide +kernel
theorem dL_law_271 : decode cL_law 271 = .ok (.istore 6, 2) := by decide +kernel
theorem dL_law_273 : decode cL_law 273 = .ok (.aload_n 2, 1) := by decide +kernel
theorem dL_law_274 : decode cL_law 274 = .ok (.invokevirtual 87, 3) := by decide +kernel
theorem dL_law_277 : decode cL_law 277 = .ok (.iload 5, 2) := by decide +kernel
theorem dL_law_279 : decode cL_law 279 = .ok (.if_icmp .eq 5, 3) := by decide +kernel
theorem dL_law_282 : decode cL_law 282 = .ok (.iconst 0, 1) := by decide +kernel
theorem dL_law_283 : decode cL_law 283 = .ok (.ireturn, 1) := by decide +kernel
theorem dL_law_284 : decode cL_law 284 = .ok (.iload 5, 2) := by decide +kernel
theorem dL_law_286 : decode cL_law 286 = .ok (.ifCond .ne 15, 3) := by decide +kernel
theorem dL_law_289 : decode cL_law 289 = .ok (.aload_n 3, 1) := by decide +kernel
theorem dL_law_290 : decode cL_law 290 = .ok (.iconst 0, 1) := by decide +kernel
theorem dL_law_291 : decode cL_law 291 = .ok (.laload, 1) := by decide +kernel
theorem dL_law_292 : decode cL_law 292 = .ok (.iload 6, 2) := by decide +kernel
theorem dL_law_294 : decode cL_law 294 = .ok (.i2l, 1) := by decide +kernel
theorem dL_law_295 : decode cL_law 295 = .ok (.lcmp, 1) := by decide +kernel
theorem dL_law_296 : decode cL_law 296 = .ok (.ifCond .eq 5, 3) := by decide +kernel
theorem dL_law_299 : decode cL_law 299 = .ok (.iconst 0, 1) := by decide +kernel
theorem dL_law_300 : decode cL_law 300 = .ok (.ireturn, 1) := by decide +kernel
theorem dL_law_301 : decode cL_law 301 = .ok (.goto 1264, 3) := by decide +kernel
theorem dL_law_304 : decode cL_law 304 = .ok (.aload_n 1, 1) := by decide +kernel
theorem dL_law_305 : decode cL_law 305 = .ok (.aload_n 0, 1) := by decide +kernel
theorem dL_law_306 : decode cL_law 306 = .ok (.iload 4, 2) := by decide +kernel
theorem dL_law_308 : decode cL_law 308 = .ok (.iconst 1, 1) := by decide +kernel
theorem dL_law_309 : decode cL_law 309 = .ok (.iadd, 1) := by decide +kernel
theorem dL_law_310 : decode cL_law 310 = .ok (.iaload, 1) := by decide +kernel
theorem dL_law_311 : decode cL_law 311 = .ok (.aload_n 3, 1) := by decide +kernel
theorem dL_law_312 : decode cL_law 312 = .ok (.invokestatic 95, 3) := by decide +kernel
theorem dL_law_315 : decode cL_law 315 = .ok (.istore 5, 2) := by decide +kernel
theorem dL_law_317 : decode cL_law 317 = .ok (.aload_n 2, 1) := by decide +kernel
theorem dL_law_318 : decode cL_law 318 = .ok (.aload_n 0, 1) := by decide +kernel
theorem dL_law_319 : decode cL_law 319 = .ok (.iload 4, 2) := by decide +kernel
theorem dL_law_321 : decode cL_law 321 = .ok (.iconst 1, 1) := by decide +kernel
theorem dL_law_322 : decode cL_law 322 = .ok (.iadd, 1) := by decide +kernel
theorem dL_law_323 : decode cL_law 323 = .ok (.iaload, 1) := by decide +kernel
theorem dL_law_324 : decode cL_law 324 = .ok (.invokevirtual 97, 3) := by decide +kernel
theorem dL_law_327 : decode cL_law 327 = .ok (.istore 6, 2) := by decide +kernel
theorem dL_law_329 : decode cL_law 329 = .ok (.aload_n 2, 1) := by decide +kernel
theorem dL_law_330 : decode cL_law 330 = .ok (.invokevirtual 87, 3) := by decide +kernel
theorem dL_law_333 : decode cL_law 333 = .ok (.iload 5, 2) := by decide +kernel
theorem dL_law_335 : decode cL_law 335 = .ok (.if_icmp .eq 5, 3) := by decide +kernel
theorem dL_law_338 : decode cL_law 338 = .ok (.iconst 0, 1) := by decide +kernel
theorem dL_law_339 : decode cL_law 339 = .ok (.ireturn, 1) := by decide +kernel
theorem dL_law_340 : decode cL_law 340 = .ok (.iload 5, 2) := by decide +kernel
theorem dL_law_342 : decode cL_law 342 = .ok (.ifCond .ne 15, 3) := by decide +kernel
theorem dL_law_345 : decode cL_law 345 = .ok (.aload_n 3, 1) := by decide +kernel
theorem dL_law_346 : decode cL_law 346 = .ok (.iconst 0, 1) := by decide +kernel
theorem dL_law_347 : decode cL_law 347 = .ok (.laload, 1) := by decide +kernel
theorem dL_law_348 : decode cL_law 348 = .ok (.iload 6, 2) := by decide +kernel
theorem dL_law_350 : decode cL_law 350 = .ok (.i2l, 1) := by decide +kernel
theorem dL_law_351 : decode cL_law 351 = .ok (.lcmp, 1) := by decide +kernel
theorem dL_law_352 : decode cL_law 352 = .ok (.ifCond .eq 5, 3) := by decide +kernel
theorem dL_law_355 : decode cL_law 355 = .ok (.iconst 0, 1) := by decide +kernel
theorem dL_law_356 : decode cL_law 356 = .ok (.ireturn, 1) := by decide +kernel
theorem dL_law_357 : decode cL_law 357 = .ok (.goto 1208, 3) := by decide +kernel
theorem dL_law_360 : decode cL_law 360 = .ok (.aload_n 1, 1) := by decide +kernel
theorem dL_law_361 : decode cL_law 361 = .ok (.aload_n 0, 1) := by decide +kernel
theorem dL_law_362 : decode cL_law 362 = .ok (.iload 4, 2) := by decide +kernel
theorem dL_law_364 : decode cL_law 364 = .ok (.iconst 1, 1) := by decide +kernel
theorem dL_law_365 : decode cL_law 365 = .ok (.iadd, 1) := by decide +kernel
theorem dL_law_366 : decode cL_law 366 = .ok (.iaload, 1) := by decide +kernel
theorem dL_law_367 : decode cL_law 367 = .ok (.ifCond .eq 7, 3) := by decide +kernel
theorem dL_law_370 : decode cL_law 370 = .ok (.iconst 1, 1) := by decide +kernel
theorem dL_law_371 : decode cL_law 371 = .ok (.goto 4, 3) := by decide +kernel
theorem dL_law_374 : decode cL_law 374 = .ok (.iconst 0, 1) := by decide +kernel
theorem dL_law_375 : decode cL_law 375 = .ok (.invokevirtual 98, 3) := by decide +kernel
theorem dL_law_378 : decode cL_law 378 = .ok (.aload_n 2, 1) := by decide +kernel
theorem dL_law_379 : decode cL_law 379 = .ok (.aload_n 0, 1) := by decide +kernel
theorem dL_law_380 : decode cL_law 380 = .ok (.iload 4, 2) := by decide +kernel
theorem dL_law_382 : decode cL_law 382 = .ok (.iconst 1, 1) := by decide +kernel
theorem dL_law_383 : decode cL_law 383 = .ok (.iadd, 1) := by decide +kernel
theorem dL_law_384 : decode cL_law 384 = .ok (.iaload, 1) := by decide +kernel
theorem dL_law_385 : decode cL_law 385 = .ok (.ifCond .eq 7, 3) := by decide +kernel
theorem dL_law_388 : decode cL_law 388 = .ok (.iconst 1, 1) := by decide +kernel
theorem dL_law_389 : decode cL_law 389 = .ok (.goto 4, 3) := by decide +kernel
theorem dL_law_392 : decode cL_law 392 = .ok (.iconst 0, 1) := by decide +kernel
theorem dL_law_393 : decode cL_law 393 = .ok (.invokevirtual 102, 3) := by decide +kernel
theorem dL_law_396 : decode cL_law 396 = .ok (.if_icmp .eq 1169, 3) := by decide +kernel
theorem dL_law_399 : decode cL_law 399 = .ok (.iconst 0, 1) := by decide +kernel
theorem dL_law_400 : decode cL_law 400 = .ok (.ireturn, 1) := by decide +kernel
theorem dL_law_401 : decode cL_law 401 = .ok (.aload_n 1, 1) := by decide +kernel
theorem dL_law_402 : decode cL_law 402 = .ok (.aload_n 0, 1) := by decide +kernel
theorem dL_law_403 : decode cL_law 403 = .ok (.iload 4, 2) := by decide +kernel
theorem dL_law_405 : decode cL_law 405 = .ok (.iconst 1, 1) := by decide +kernel
theorem dL_law_406 : decode cL_law 406 = .ok (.iadd, 1) := by decide +kernel
theorem dL_law_407 : decode cL_law 407 = .ok (.iaload, 1) := by decide +kernel
theorem dL_law_408 : decode cL_law 408 = .ok (.aload_n 0, 1) := by decide +kernel
theorem dL_law_409 : decode cL_law 409 = .ok (.iload 4, 2) := by decide +kernel
theorem dL_law_411 : decode cL_law 411 = .ok (.iconst 2, 1) := by decide +kernel
theorem dL_law_412 : decode cL_law 412 = .ok (.iadd, 1) := by decide +kernel
theorem dL_law_413 : decode cL_law 413 = .ok (.iaload, 1) := by decide +kernel
theorem dL_law_414 : decode cL_law 414 = .ok (.aload_n 0, 1) := by decide +kernel
theorem dL_law_415 : decode cL_law 415 = .ok (.iload 4, 2) := by decide +kernel
theorem dL_law_417 : decode cL_law 417 = .ok (.iconst 3, 1) := by decide +kernel
theorem dL_law_418 : decode cL_law 418 = .ok (.iadd, 1) := by decide +kernel
theorem dL_law_419 : decode cL_law 419 = .ok (.iaload, 1) := by decide +kernel
theorem dL_law_420 : decode cL_law 420 = .ok (.aload_n 3, 1) := by decide +kernel
theorem dL_law_421 : decode cL_law 421 = .ok (.invokestatic 103, 3) := by decide +kernel
theorem dL_law_424 : decode cL_law 424 = .ok (.istore 5, 2) := by decide +kernel
theorem dL_law_426 : decode cL_law 426 = .ok (.aload_n 2, 1) := by decide +kernel
theorem dL_law_427 : decode cL_law 427 = .ok (.aload_n 0, 1) := by decide +kernel
theorem dL_law_428 : decode cL_law 428 = .ok (.iload 4, 2) := by decide +kernel
theorem dL_law_430 : decode cL_law 430 = .ok (.iconst 1, 1) := by decide +kernel
theorem dL_law_431 : decode cL_law 431 = .ok (.iadd, 1) := by decide +kernel
theorem dL_law_432 : decode cL_law 432 = .ok (.iaload, 1) := by decide +kernel
theorem dL_law_433 : decode cL_law 433 = .ok (.aload_n 0, 1) := by decide +kernel
theorem dL_law_434 : decode cL_law 434 = .ok (.iload 4, 2) := by decide +kernel
theorem dL_law_436 : decode cL_law 436 = .ok (.iconst 2, 1) := by decide +kernel
theorem dL_law_437 : decode cL_law 437 = .ok (.iadd, 1) := by decide +kernel
theorem dL_law_438 : decode cL_law 438 = .ok (.iaload, 1) := by decide +kernel
theorem dL_law_439 : decode cL_law 439 = .ok (.aload_n 0, 1) := by decide +kernel
theorem dL_law_440 : decode cL_law 440 = .ok (.iload 4, 2) := by decide +kernel
theorem dL_law_442 : decode cL_law 442 = .ok (.iconst 3, 1) := by decide +kernel
theorem dL_law_443 : decode cL_law 443 = .ok (.iadd, 1) := by decide +kernel
theorem dL_law_444 : decode cL_law 444 = .ok (.iaload, 1) := by decide +kernel
theorem dL_law_445 : decode cL_law 445 = .ok (.invokevirtual 106, 3) := by decide +kernel
theorem dL_law_448 : decode cL_law 448 = .ok (.istore 6, 2) := by decide +kernel
theorem dL_law_450 : decode cL_law 450 = .ok (.aload_n 2, 1) := by decide +kernel
theorem dL_law_451 : decode cL_law 451 = .ok (.invokevirtual 87, 3) := by decide +kernel
theorem dL_law_454 : decode cL_law 454 = .ok (.iload 5, 2) := by decide +kernel
theorem dL_law_456 : decode cL_law 456 = .ok (.if_icmp .eq 5, 3) := by decide +kernel
theorem dL_law_459 : decode cL_law 459 = .ok (.iconst 0, 1) := by decide +kernel
theorem dL_law_460 : decode cL_law 460 = .ok (.ireturn, 1) := by decide +kernel
theorem dL_law_461 : decode cL_law 461 = .ok (.iload 5, 2) := by decide +kernel
theorem dL_law_463 : decode cL_law 463 = .ok (.ifCond .ne 15, 3) := by decide +kernel
theorem dL_law_466 : decode cL_law 466 = .ok (.aload_n 3, 1) := by decide +kernel
theorem dL_law_467 : decode cL_law 467 = .ok (.iconst 0, 1) := by decide +kernel
theorem dL_law_468 : decode cL_law 468 = .ok (.laload, 1) := by decide +kernel
theorem dL_law_469 : decode cL_law 469 = .ok (.iload 6, 2) := by decide +kernel
theorem dL_law_471 : decode cL_law 471 = .ok (.i2l, 1) := by decide +kernel
theorem dL_law_472 : decode cL_law 472 = .ok (.lcmp, 1) := by decide +kernel
theorem dL_law_473 : decode cL_law 473 = .ok (.ifCond .eq 5, 3) := by decide +kernel
theorem dL_law_476 : decode cL_law 476 = .ok (.iconst 0, 1) := by decide +kernel
theorem dL_law_477 : decode cL_law 477 = .ok (.ireturn, 1) := by decide +kernel
theorem dL_law_478 : decode cL_law 478 = .ok (.goto 1087, 3) := by decide +kernel
theorem dL_law_481 : decode cL_law 481 = .ok (.aload_n 1, 1) := by decide +kernel
theorem dL_law_482 : decode cL_law 482 = .ok (.aload_n 0, 1) := by decide +kernel
theorem dL_law_483 : decode cL_law 483 = .ok (.iload 4, 2) := by decide +kernel
theorem dL_law_485 : decode cL_law 485 = .ok (.iconst 1, 1) := by decide +kernel
theorem dL_law_486 : decode cL_law 486 = .ok (.iadd, 1) := by decide +kernel
theorem dL_law_487 : decode cL_law 487 = .ok (.iaload, 1) := by decide +kernel
theorem dL_law_488 : decode cL_law 488 = .ok (.aload_n 3, 1) := by decide +kernel
theorem dL_law_489 : decode cL_law 489 = .ok (.invokestatic 107, 3) := by decide +kernel
theorem dL_law_492 : decode cL_law 492 = .ok (.istore 5, 2) := by decide +kernel
theorem dL_law_494 : decode cL_law 494 = .ok (.aload_n 2, 1) := by decide +kernel
theorem dL_law_495 : decode cL_law 495 = .ok (.aload_n 0, 1) := by decide +kernel
theorem dL_law_496 : decode cL_law 496 = .ok (.iload 4, 2) := by decide +kernel
theorem dL_law_498 : decode cL_law 498 = .ok (.iconst 1, 1) := by decide +kernel
theorem dL_law_499 : decode cL_law 499 = .ok (.iadd, 1) := by decide +kernel
theorem dL_law_500 : decode cL_law 500 = .ok (.iaload, 1) := by decide +kernel
theorem dL_law_501 : decode cL_law 501 = .ok (.invokevirtual 109, 3) := by decide +kernel
theorem dL_law_504 : decode cL_law 504 = .ok (.istore 6, 2) := by decide +kernel
theorem dL_law_506 : decode cL_law 506 = .ok (.aload_n 2, 1) := by decide +kernel
theorem dL_law_507 : decode cL_law 507 = .ok (.invokevirtual 87, 3) := by decide +kernel
theorem dL_law_510 : decode cL_law 510 = .ok (.iload 5, 2) := by decide +kernel
theorem dL_law_512 : decode cL_law 512 = .ok (.if_icmp .eq 5, 3) := by decide +kernel
theorem dL_law_515 : decode cL_law 515 = .ok (.iconst 0, 1) := by decide +kernel
theorem dL_law_516 : decode cL_law 516 = .ok (.ireturn, 1) := by decide +kernel
theorem dL_law_517 : decode cL_law 517 = .ok (.iload 5, 2) := by decide +kernel
theorem dL_law_519 : decode cL_law 519 = .ok (.ifCond .ne 15, 3) := by decide +kernel
theorem dL_law_522 : decode cL_law 522 = .ok (.aload_n 3, 1) := by decide +kernel
theorem dL_law_523 : decode cL_law 523 = .ok (.iconst 0, 1) := by decide +kernel
theorem dL_law_524 : decode cL_law 524 = .ok (.laload, 1) := by decide +kernel
theorem dL_law_525 : decode cL_law 525 = .ok (.iload 6, 2) := by decide +kernel
theorem dL_law_527 : decode cL_law 527 = .ok (.i2l, 1) := by decide +kernel
theorem dL_law_528 : decode cL_law 528 = .ok (.lcmp, 1) := by decide +kernel
theorem dL_law_529 : decode cL_law 529 = .ok (.ifCond .eq 5, 3) := by decide +kernel
theorem dL_law_532 : decode cL_law 532 = .ok (.iconst 0, 1) := by decide +kernel
theorem dL_law_533 : decode cL_law 533 = .ok (.ireturn, 1) := by decide +kernel
theorem dL_law_534 : decode cL_law 534 = .ok (.goto 1031, 3) := by decide +kernel
theorem dL_law_537 : decode cL_law 537 = .ok (.aload_n 1, 1) := by decide +kernel
theorem dL_law_538 : decode cL_law 538 = .ok (.aload_n 0, 1) := by decide +kernel
theorem dL_law_539 : decode cL_law 539 = .ok (.iload 4, 2) := by decide +kernel
theorem dL_law_541 : decode cL_law 541 = .ok (.iconst 1, 1) := by decide +kernel
theorem dL_law_542 : decode cL_law 542 = .ok (.iadd, 1) := by decide +kernel
theorem dL_law_543 : decode cL_law 543 = .ok (.iaload, 1) := by decide +kernel
theorem dL_law_544 : decode cL_law 544 = .ok (.aload_n 0, 1) := by decide +kernel
theorem dL_law_545 : decode cL_law 545 = .ok (.iload 4, 2) := by decide +kernel
theorem dL_law_547 : decode cL_law 547 = .ok (.iconst 2, 1) := by decide +kernel
theorem dL_law_548 : decode cL_law 548 = .ok (.iadd, 1) := by decide +kernel
theorem dL_law_549 : decode cL_law 549 = .ok (.iaload, 1) := by decide +kernel
theorem dL_law_550 : decode cL_law 550 = .ok (.aload_n 3, 1) := by decide +kernel
theorem dL_law_551 : decode cL_law 551 = .ok (.invokestatic 110, 3) := by decide +kernel
theorem dL_law_554 : decode cL_law 554 = .ok (.istore 5, 2) := by decide +kernel
theorem dL_law_556 : decode cL_law 556 = .ok (.aload_n 2, 1) := by decide +kernel
theorem dL_law_557 : decode cL_law 557 = .ok (.aload_n 0, 1) := by decide +kernel
theorem dL_law_558 : decode cL_law 558 = .ok (.iload 4, 2) := by decide +kernel
theorem dL_law_560 : decode cL_law 560 = .ok (.iconst 1, 1) := by decide +kernel
theorem dL_law_561 : decode cL_law 561 = .ok (.iadd, 1) := by decide +kernel
theorem dL_law_562 : decode cL_law 562 = .ok (.iaload, 1) := by decide +kernel
theorem dL_law_563 : decode cL_law 563 = .ok (.aload_n 0, 1) := by decide +kernel
theorem dL_law_564 : decode cL_law 564 = .ok (.iload 4, 2) := by decide +kernel
theorem dL_law_566 : decode cL_law 566 = .ok (.iconst 2, 1) := by decide +kernel
theorem dL_law_567 : decode cL_law 567 = .ok (.iadd, 1) := by decide +kernel
theorem dL_law_568 : decode cL_law 568 = .ok (.iaload, 1) := by decide +kernel
theorem dL_law_569 : decode cL_law 569 = .ok (.invokevirtual 112, 3) := by decide +kernel
theorem dL_law_572 : decode cL_law 572 = .ok (.istore 6, 2) := by decide +kernel
theorem dL_law_574 : decode cL_law 574 = .ok (.aload_n 2, 1) := by decide +kernel
theorem dL_law_575 : decode cL_law 575 = .ok (.invokevirtual 87, 3) := by decide +kernel
theorem dL_law_578 : decode cL_law 578 = .ok (.iload 5, 2) := by decide +kernel
theorem dL_law_580 : decode cL_law 580 = .ok (.if_icmp .eq 5, 3) := by decide +kernel
theorem dL_law_583 : decode cL_law 583 = .ok (.iconst 0, 1) := by decide +kernel
theorem dL_law_584 : decode cL_law 584 = .ok (.ireturn, 1) := by decide +kernel
theorem dL_law_585 : decode cL_law 585 = .ok (.iload 5, 2) := by decide +kernel
theorem dL_law_587 : decode cL_law 587 = .ok (.ifCond .ne 15, 3) := by decide +kernel
theorem dL_law_590 : decode cL_law 590 = .ok (.aload_n 3, 1) := by decide +kernel
theorem dL_law_591 : decode cL_law 591 = .ok (.iconst 0, 1) := by decide +kernel
theorem dL_law_592 : decode cL_law 592 = .ok (.laload, 1) := by decide +kernel
theorem dL_law_593 : decode cL_law 593 = .ok (.iload 6, 2) := by decide +kernel
theorem dL_law_595 : decode cL_law 595 = .ok (.i2l, 1) := by decide +kernel
theorem dL_law_596 : decode cL_law 596 = .ok (.lcmp, 1) := by decide +kernel
theorem dL_law_597 : decode cL_law 597 = .ok (.ifCond .eq 5, 3) := by decide +kernel
theorem dL_law_600 : decode cL_law 600 = .ok (.iconst 0, 1) := by decide +kernel
theorem dL_law_601 : decode cL_law 601 = .ok (.ireturn, 1) := by decide +kernel
theorem dL_law_602 : decode cL_law 602 = .ok (.goto 963, 3) := by decide +kernel
theorem dL_law_605 : decode cL_law 605 = .ok (.aload_n 1, 1) := by decide +kernel
theorem dL_law_606 : decode cL_law 606 = .ok (.aload_n 0, 1) := by decide +kernel
theorem dL_law_607 : decode cL_law 607 = .ok (.iload 4, 2) := by decide +kernel
theorem dL_law_609 : decode cL_law 609 = .ok (.iconst 1, 1) := by decide +kernel
theorem dL_law_610 : decode cL_law 610 = .ok (.iadd, 1) := by decide +kernel
theorem dL_law_611 : decode cL_law 611 = .ok (.iaload, 1) := by decide +kernel
theorem dL_law_612 : decode cL_law 612 = .ok (.aload_n 3, 1) := by decide +kernel
theorem dL_law_613 : decode cL_law 613 = .ok (.invokestatic 113, 3) := by decide +kernel
theorem dL_law_616 : decode cL_law 616 = .ok (.istore 5, 2) := by decide +kernel
theorem dL_law_618 : decode cL_law 618 = .ok (.aload_n 2, 1) := by decide +kernel
theorem dL_law_619 : decode cL_law 619 = .ok (.aload_n 0, 1) := by decide +kernel
theorem dL_law_620 : decode cL_law 620 = .ok (.iload 4, 2) := by decide +kernel
theorem dL_law_622 : decode cL_law 622 = .ok (.iconst 1, 1) := by decide +kernel
theorem dL_law_623 : decode cL_law 623 = .ok (.iadd, 1) := by decide +kernel
theorem dL_law_624 : decode cL_law 624 = .ok (.iaload, 1) := by decide +kernel
theorem dL_law_625 : decode cL_law 625 = .ok (.invokevirtual 115, 3) := by decide +kernel
theorem dL_law_628 : decode cL_law 628 = .ok (.istore 6, 2) := by decide +kernel
theorem dL_law_630 : decode cL_law 630 = .ok (.aload_n 2, 1) := by decide +kernel
theorem dL_law_631 : decode cL_law 631 = .ok (.invokevirtual 87, 3) := by decide +kernel
theorem dL_law_634 : decode cL_law 634 = .ok (.iload 5, 2) := by decide +kernel
theorem dL_law_636 : decode cL_law 636 = .ok (.if_icmp .eq 5, 3) := by decide +kernel
theorem dL_law_639 : decode cL_law 639 = .ok (.iconst 0, 1) := by decide +kernel
theorem dL_law_640 : decode cL_law 640 = .ok (.ireturn, 1) := by decide +kernel
theorem dL_law_641 : decode cL_law 641 = .ok (.iload 5, 2) := by decide +kernel
theorem dL_law_643 : decode cL_law 643 = .ok (.ifCond .ne 15, 3) := by decide +kernel
theorem dL_law_646 : decode cL_law 646 = .ok (.aload_n 3, 1) := by decide +kernel
theorem dL_law_647 : decode cL_law 647 = .ok (.iconst 0, 1) := by decide +kernel
theorem dL_law_648 : decode cL_law 648 = .ok (.laload, 1) := by decide +kernel
theorem dL_law_649 : decode cL_law 649 = .ok (.iload 6, 2) := by decide +kernel
theorem dL_law_651 : decode cL_law 651 = .ok (.i2l, 1) := by decide +kernel
theorem dL_law_652 : decode cL_law 652 = .ok (.lcmp, 1) := by decide +kernel
theorem dL_law_653 : decode cL_law 653 = .ok (.ifCond .eq 5, 3) := by decide +kernel
theorem dL_law_656 : decode cL_law 656 = .ok (.iconst 0, 1) := by decide +kernel
theorem dL_law_657 : decode cL_law 657 = .ok (.ireturn, 1) := by decide +kernel
theorem dL_law_658 : decode cL_law 658 = .ok (.goto 907, 3) := by decide +kernel
theorem dL_law_661 : decode cL_law 661 = .ok (.aload_n 1, 1) := by decide +kernel
theorem dL_law_662 : decode cL_law 662 = .ok (.invokevirtual 116, 3) := by decide +kernel
theorem dL_law_665 : decode cL_law 665 = .ok (.aload_n 2, 1) := by decide +kernel
theorem dL_law_666 : decode cL_law 666 = .ok (.invokevirtual 119, 3) := by decide +kernel
theorem dL_law_669 : decode cL_law 669 = .ok (.if_icmp .eq 896, 3) := by decide +kernel
theorem dL_law_672 : decode cL_law 672 = .ok (.iconst 0, 1) := by decide +kernel
theorem dL_law_673 : decode cL_law 673 = .ok (.ireturn, 1) := by decide +kernel
theorem dL_law_674 : decode cL_law 674 = .ok (.aload_n 1, 1) := by decide +kernel
theorem dL_law_675 : decode cL_law 675 = .ok (.invokevirtual 120, 3) := by decide +kernel
theorem dL_law_678 : decode cL_law 678 = .ok (.aload_n 2, 1) := by decide +kernel
theorem dL_law_679 : decode cL_law 679 = .ok (.invokevirtual 123, 3) := by decide +kernel
theorem dL_law_682 : decode cL_law 682 = .ok (.if_icmp .eq 883, 3) := by decide +kernel
theorem dL_law_685 : decode cL_law 685 = .ok (.iconst 0, 1) := by decide +kernel
theorem dL_law_686 : decode cL_law 686 = .ok (.ireturn, 1) := by decide +kernel
theorem dL_law_687 : decode cL_law 687 = .ok (.aload_n 1, 1) := by decide +kernel
theorem dL_law_688 : decode cL_law 688 = .ok (.invokevirtual 124, 3) := by decide +kernel
theorem dL_law_691 : decode cL_law 691 = .ok (.aload_n 2, 1) := by decide +kernel
theorem dL_law_692 : decode cL_law 692 = .ok (.invokevirtual 127, 3) := by decide +kernel
theorem dL_law_695 : decode cL_law 695 = .ok (.if_icmp .eq 870, 3) := by decide +kernel
theorem dL_law_698 : decode cL_law 698 = .ok (.iconst 0, 1) := by decide +kernel
theorem dL_law_699 : decode cL_law 699 = .ok (.ireturn, 1) := by decide +kernel
theorem dL_law_700 : decode cL_law 700 = .ok (.aload_n 1, 1) := by decide +kernel
theorem dL_law_701 : decode cL_law 701 = .ok (.invokevirtual 128, 3) := by decide +kernel
theorem dL_law_704 : decode cL_law 704 = .ok (.aload_n 2, 1) := by decide +kernel
theorem dL_law_705 : decode cL_law 705 = .ok (.invokevirtual 131, 3) := by decide +kernel
theorem dL_law_708 : decode cL_law 708 = .ok (.if_icmp .eq 857, 3) := by decide +kernel
theorem dL_law_711 : decode cL_law 711 = .ok (.iconst 0, 1) := by decide +kernel
theorem dL_law_712 : decode cL_law 712 = .ok (.ireturn, 1) := by decide +kernel
theorem dL_law_713 : decode cL_law 713 = .ok (.aload_n 1, 1) := by decide +kernel
theorem dL_law_714 : decode cL_law 714 = .ok (.invokevirtual 132, 3) := by decide +kernel
theorem dL_law_717 : decode cL_law 717 = .ok (.aload_n 2, 1) := by decide +kernel
theorem dL_law_718 : decode cL_law 718 = .ok (.invokevirtual 135, 3) := by decide +kernel
theorem dL_law_721 : decode cL_law 721 = .ok (.if_icmp .eq 844, 3) := by decide +kernel
theorem dL_law_724 : decode cL_law 724 = .ok (.iconst 0, 1) := by decide +kernel
theorem dL_law_725 : decode cL_law 725 = .ok (.ireturn, 1) := by decide +kernel
theorem dL_law_726 : decode cL_law 726 = .ok (.aload_n 1, 1) := by decide +kernel
theorem dL_law_727 : decode cL_law 727 = .ok (.aload_n 0, 1) := by decide +kernel
theorem dL_law_728 : decode cL_law 728 = .ok (.iload 4, 2) := by decide +kernel
theorem dL_law_730 : decode cL_law 730 = .ok (.iconst 1, 1) := by decide +kernel
theorem dL_law_731 : decode cL_law 731 = .ok (.iadd, 1) := by decide +kernel
theorem dL_law_732 : decode cL_law 732 = .ok (.iaload, 1) := by decide +kernel
theorem dL_law_733 : decode cL_law 733 = .ok (.aload_n 3, 1) := by decide +kernel
theorem dL_law_734 : decode cL_law 734 = .ok (.invokestatic 136, 3) := by decide +kernel
theorem dL_law_737 : decode cL_law 737 = .ok (.istore 5, 2) := by decide +kernel
theorem dL_law_739 : decode cL_law 739 = .ok (.aload_n 2, 1) := by decide +kernel
theorem dL_law_740 : decode cL_law 740 = .ok (.aload_n 0, 1) := by decide +kernel
theorem dL_law_741 : decode cL_law 741 = .ok (.iload 4, 2) := by decide +kernel
theorem dL_law_743 : decode cL_law 743 = .ok (.iconst 1, 1) := by decide +kernel
theorem dL_law_744 : decode cL_law 744 = .ok (.iadd, 1) := by decide +kernel
theorem dL_law_745 : decode cL_law 745 = .ok (.iaload, 1) := by decide +kernel
theorem dL_law_746 : decode cL_law 746 = .ok (.invokevirtual 138, 3) := by decide +kernel
theorem dL_law_749 : decode cL_law 749 = .ok (.istore 6, 2) := by decide +kernel
theorem dL_law_751 : decode cL_law 751 = .ok (.aload_n 2, 1) := by decide +kernel
theorem dL_law_752 : decode cL_law 752 = .ok (.invokevirtual 87, 3) := by decide +kernel
theorem dL_law_755 : decode cL_law 755 = .ok (.iload 5, 2) := by decide +kernel
theorem dL_law_757 : decode cL_law 757 = .ok (.if_icmp .eq 5, 3) := by decide +kernel
theorem dL_law_760 : decode cL_law 760 = .ok (.iconst 0, 1) := by decide +kernel
theorem dL_law_761 : decode cL_law 761 = .ok (.ireturn, 1) := by decide +kernel
theorem dL_law_762 : decode cL_law 762 = .ok (.iload 5, 2) := by decide +kernel
theorem dL_law_764 : decode cL_law 764 = .ok (.ifCond .ne 15, 3) := by decide +kernel
theorem dL_law_767 : decode cL_law 767 = .ok (.aload_n 3, 1) := by decide +kernel
theorem dL_law_768 : decode cL_law 768 = .ok (.iconst 0, 1) := by decide +kernel
theorem dL_law_769 : decode cL_law 769 = .ok (.laload, 1) := by decide +kernel
theorem dL_law_770 : decode cL_law 770 = .ok (.iload 6, 2) := by decide +kernel
theorem dL_law_772 : decode cL_law 772 = .ok (.i2l, 1) := by decide +kernel
theorem dL_law_773 : decode cL_law 773 = .ok (.lcmp, 1) := by decide +kernel
theorem dL_law_774 : decode cL_law 774 = .ok (.ifCond .eq 5, 3) := by decide +kernel
theorem dL_law_777 : decode cL_law 777 = .ok (.iconst 0, 1) := by decide +kernel
theorem dL_law_778 : decode cL_law 778 = .ok (.ireturn, 1) := by decide +kernel
theorem dL_law_779 : decode cL_law 779 = .ok (.goto 786, 3) := by decide +kernel
theorem dL_law_782 : decode cL_law 782 = .ok (.aload_n 1, 1) := by decide +kernel
theorem dL_law_783 : decode cL_law 783 = .ok (.aload_n 0, 1) := by decide +kernel
theorem dL_law_784 : decode cL_law 784 = .ok (.iload 4, 2) := by decide +kernel
theorem dL_law_786 : decode cL_law 786 = .ok (.iconst 1, 1) := by decide +kernel
theorem dL_law_787 : decode cL_law 787 = .ok (.iadd, 1) := by decide +kernel
theorem dL_law_788 : decode cL_law 788 = .ok (.iaload, 1) := by decide +kernel
theorem dL_law_789 : decode cL_law 789 = .ok (.aload_n 3, 1) := by decide +kernel
theorem dL_law_790 : decode cL_law 790 = .ok (.invokestatic 139, 3) := by decide +kernel
theorem dL_law_793 : decode cL_law 793 = .ok (.istore 5, 2) := by decide +kernel
theorem dL_law_795 : decode cL_law 795 = .ok (.aload_n 2, 1) := by decide +kernel
theorem dL_law_796 : decode cL_law 796 = .ok (.aload_n 0, 1) := by decide +kernel
theorem dL_law_797 : decode cL_law 797 = .ok (.iload 4, 2) := by decide +kernel
theorem dL_law_799 : decode cL_law 799 = .ok (.iconst 1, 1) := by decide +kernel
theorem dL_law_800 : decode cL_law 800 = .ok (.iadd, 1) := by decide +kernel
theorem dL_law_801 : decode cL_law 801 = .ok (.iaload, 1) := by decide +kernel
theorem dL_law_802 : decode cL_law 802 = .ok (.invokevirtual 141, 3) := by decide +kernel
theorem dL_law_805 : decode cL_law 805 = .ok (.istore 6, 2) := by decide +kernel
theorem dL_law_807 : decode cL_law 807 = .ok (.aload_n 2, 1) := by decide +kernel
theorem dL_law_808 : decode cL_law 808 = .ok (.invokevirtual 87, 3) := by decide +kernel
theorem dL_law_811 : decode cL_law 811 = .ok (.iload 5, 2) := by decide +kernel
theorem dL_law_813 : decode cL_law 813 = .ok (.if_icmp .eq 5, 3) := by decide +kernel
theorem dL_law_816 : decode cL_law 816 = .ok (.iconst 0, 1) := by decide +kernel
theorem dL_law_817 : decode cL_law 817 = .ok (.ireturn, 1) := by decide +kernel
theorem dL_law_818 : decode cL_law 818 = .ok (.iload 5, 2) := by decide +kernel
theorem dL_law_820 : decode cL_law 820 = .ok (.ifCond .ne 15, 3) := by decide +kernel
theorem dL_law_823 : decode cL_law 823 = .ok (.aload_n 3, 1) := by decide +kernel
theorem dL_law_824 : decode cL_law 824 = .ok (.iconst 0, 1) := by decide +kernel
theorem dL_law_825 : decode cL_law 825 = .ok (.laload, 1) := by decide +kernel
theorem dL_law_826 : decode cL_law 826 = .ok (.iload 6, 2) := by decide +kernel
theorem dL_law_828 : decode cL_law 828 = .ok (.i2l, 1) := by decide +kernel
theorem dL_law_829 : decode cL_law 829 = .ok (.lcmp, 1) := by decide +kernel
theorem dL_law_830 : decode cL_law 830 = .ok (.ifCond .eq 5, 3) := by decide +kernel
theorem dL_law_833 : decode cL_law 833 = .ok (.iconst 0, 1) := by decide +kernel
theorem dL_law_834 : decode cL_law 834 = .ok (.ireturn, 1) := by decide +kernel
theorem dL_law_835 : decode cL_law 835 = .ok (.goto 730, 3) := by decide +kernel
theorem dL_law_838 : decode cL_law 838 = .ok (.aload_n 1, 1) := by decide +kernel
theorem dL_law_839 : decode cL_law 839 = .ok (.aload_n 0, 1) := by decide +kernel
theorem dL_law_840 : decode cL_law 840 = .ok (.iload 4, 2) := by decide +kernel
theorem dL_law_842 : decode cL_law 842 = .ok (.iconst 1, 1) := by decide +kernel
theorem dL_law_843 : decode cL_law 843 = .ok (.iadd, 1) := by decide +kernel
theorem dL_law_844 : decode cL_law 844 = .ok (.iaload, 1) := by decide +kernel
theorem dL_law_845 : decode cL_law 845 = .ok (.aload_n 3, 1) := by decide +kernel
theorem dL_law_846 : decode cL_law 846 = .ok (.invokestatic 142, 3) := by decide +kernel
theorem dL_law_849 : decode cL_law 849 = .ok (.istore 5, 2) := by decide +kernel
theorem dL_law_851 : decode cL_law 851 = .ok (.aload_n 2, 1) := by decide +kernel
theorem dL_law_852 : decode cL_law 852 = .ok (.aload_n 0, 1) := by decide +kernel
theorem dL_law_853 : decode cL_law 853 = .ok (.iload 4, 2) := by decide +kernel
theorem dL_law_855 : decode cL_law 855 = .ok (.iconst 1, 1) := by decide +kernel
theorem dL_law_856 : decode cL_law 856 = .ok (.iadd, 1) := by decide +kernel
theorem dL_law_857 : decode cL_law 857 = .ok (.iaload, 1) := by decide +kernel
theorem dL_law_858 : decode cL_law 858 = .ok (.invokevirtual 144, 3) := by decide +kernel
theorem dL_law_861 : decode cL_law 861 = .ok (.istore 6, 2) := by decide +kernel
theorem dL_law_863 : decode cL_law 863 = .ok (.aload_n 2, 1) := by decide +kernel
theorem dL_law_864 : decode cL_law 864 = .ok (.invokevirtual 87, 3) := by decide +kernel
theorem dL_law_867 : decode cL_law 867 = .ok (.iload 5, 2) := by decide +kernel
theorem dL_law_869 : decode cL_law 869 = .ok (.if_icmp .eq 5, 3) := by decide +kernel
theorem dL_law_872 : decode cL_law 872 = .ok (.iconst 0, 1) := by decide +kernel
theorem dL_law_873 : decode cL_law 873 = .ok (.ireturn, 1) := by decide +kernel
theorem dL_law_874 : decode cL_law 874 = .ok (.iload 5, 2) := by decide +kernel
theorem dL_law_876 : decode cL_law 876 = .ok (.ifCond .ne 15, 3) := by decide +kernel
theorem dL_law_879 : decode cL_law 879 = .ok (.aload_n 3, 1) := by decide +kernel
theorem dL_law_880 : decode cL_law 880 = .ok (.iconst 0, 1) := by decide +kernel
theorem dL_law_881 : decode cL_law 881 = .ok (.laload, 1) := by decide +kernel
theorem dL_law_882 : decode cL_law 882 = .ok (.iload 6, 2) := by decide +kernel
theorem dL_law_884 : decode cL_law 884 = .ok (.i2l, 1) := by decide +kernel
theorem dL_law_885 : decode cL_law 885 = .ok (.lcmp, 1) := by decide +kernel
theorem dL_law_886 : decode cL_law 886 = .ok (.ifCond .eq 5, 3) := by decide +kernel
theorem dL_law_889 : decode cL_law 889 = .ok (.iconst 0, 1) := by decide +kernel
theorem dL_law_890 : decode cL_law 890 = .ok (.ireturn, 1) := by decide +kernel
theorem dL_law_891 : decode cL_law 891 = .ok (.goto 674, 3) := by decide +kernel
theorem dL_law_894 : decode cL_law 894 = .ok (.aload_n 1, 1) := by decide +kernel
theorem dL_law_895 : decode cL_law 895 = .ok (.aload_n 0, 1) := by decide +kernel
theorem dL_law_896 : decode cL_law 896 = .ok (.iload 4, 2) := by decide +kernel
theorem dL_law_898 : decode cL_law 898 = .ok (.iconst 1, 1) := by decide +kernel
theorem dL_law_899 : decode cL_law 899 = .ok (.iadd, 1) := by decide +kernel
theorem dL_law_900 : decode cL_law 900 = .ok (.iaload, 1) := by decide +kernel
theorem dL_law_901 : decode cL_law 901 = .ok (.aload_n 3, 1) := by decide +kernel
theorem dL_law_902 : decode cL_law 902 = .ok (.invokestatic 145, 3) := by decide +kernel
theorem dL_law_905 : decode cL_law 905 = .ok (.istore 5, 2) := by decide +kernel
theorem dL_law_907 : decode cL_law 907 = .ok (.aload_n 2, 1) := by decide +kernel
theorem dL_law_908 : decode cL_law 908 = .ok (.aload_n 0, 1) := by decide +kernel
theorem dL_law_909 : decode cL_law 909 = .ok (.iload 4, 2) := by decide +kernel
theorem dL_law_911 : decode cL_law 911 = .ok (.iconst 1, 1) := by decide +kernel
theorem dL_law_912 : decode cL_law 912 = .ok (.iadd, 1) := by decide +kernel
theorem dL_law_913 : decode cL_law 913 = .ok (.iaload, 1) := by decide +kernel
theorem dL_law_914 : decode cL_law 914 = .ok (.invokevirtual 147, 3) := by decide +kernel
theorem dL_law_917 : decode cL_law 917 = .ok (.istore 6, 2) := by decide +kernel
theorem dL_law_919 : decode cL_law 919 = .ok (.aload_n 2, 1) := by decide +kernel
theorem dL_law_920 : decode cL_law 920 = .ok (.invokevirtual 87, 3) := by decide +kernel
theorem dL_law_923 : decode cL_law 923 = .ok (.iload 5, 2) := by decide +kernel
theorem dL_law_925 : decode cL_law 925 = .ok (.if_icmp .eq 5, 3) := by decide +kernel
theorem dL_law_928 : decode cL_law 928 = .ok (.iconst 0, 1) := by decide +kernel
theorem dL_law_929 : decode cL_law 929 = .ok (.ireturn, 1) := by decide +kernel
theorem dL_law_930 : decode cL_law 930 = .ok (.iload 5, 2) := by decide +kernel
theorem dL_law_932 : decode cL_law 932 = .ok (.ifCond .ne 15, 3) := by decide +kernel
theorem dL_law_935 : decode cL_law 935 = .ok (.aload_n 3, 1) := by decide +kernel
theorem dL_law_936 : decode cL_law 936 = .ok (.iconst 0, 1) := by decide +kernel
theorem dL_law_937 : decode cL_law 937 = .ok (.laload, 1) := by decide +kernel
theorem dL_law_938 : decode cL_law 938 = .ok (.iload 6, 2) := by decide +kernel
theorem dL_law_940 : decode cL_law 940 = .ok (.i2l, 1) := by decide +kernel
theorem dL_law_941 : decode cL_law 941 = .ok (.lcmp, 1) := by decide +kernel
theorem dL_law_942 : decode cL_law 942 = .ok (.ifCond .eq 5, 3) := by decide +kernel
theorem dL_law_945 : decode cL_law 945 = .ok (.iconst 0, 1) := by decide +kernel
theorem dL_law_946 : decode cL_law 946 = .ok (.ireturn, 1) := by decide +kernel
theorem dL_law_947 : decode cL_law 947 = .ok (.goto 618, 3) := by decide +kernel
theorem dL_law_950 : decode cL_law 950 = .ok (.aload_n 1, 1) := by decide +kernel
theorem dL_law_951 : decode cL_law 951 = .ok (.aload_n 0, 1) := by decide +kernel
theorem dL_law_952 : decode cL_law 952 = .ok (.iload 4, 2) := by decide +kernel
theorem dL_law_954 : decode cL_law 954 = .ok (.iconst 1, 1) := by decide +kernel
theorem dL_law_955 : decode cL_law 955 = .ok (.iadd, 1) := by decide +kernel
theorem dL_law_956 : decode cL_law 956 = .ok (.iaload, 1) := by decide +kernel
theorem dL_law_957 : decode cL_law 957 = .ok (.aload_n 3, 1) := by decide +kernel
theorem dL_law_958 : decode cL_law 958 = .ok (.invokestatic 148, 3) := by decide +kernel
theorem dL_law_961 : decode cL_law 961 = .ok (.istore 5, 2) := by decide +kernel
theorem dL_law_963 : decode cL_law 963 = .ok (.aload_n 2, 1) := by decide +kernel
theorem dL_law_964 : decode cL_law 964 = .ok (.aload_n 0, 1) := by decide +kernel
theorem dL_law_965 : decode cL_law 965 = .ok (.iload 4, 2) := by decide +kernel
theorem dL_law_967 : decode cL_law 967 = .ok (.iconst 1, 1) := by decide +kernel
theorem dL_law_968 : decode cL_law 968 = .ok (.iadd, 1) := by decide +kernel
theorem dL_law_969 : decode cL_law 969 = .ok (.iaload, 1) := by decide +kernel
theorem dL_law_970 : decode cL_law 970 = .ok (.invokevirtual 150, 3) := by decide +kernel
theorem dL_law_973 : decode cL_law 973 = .ok (.istore 6, 2) := by decide +kernel
theorem dL_law_975 : decode cL_law 975 = .ok (.aload_n 2, 1) := by decide +kernel
theorem dL_law_976 : decode cL_law 976 = .ok (.invokevirtual 87, 3) := by decide +kernel
theorem dL_law_979 : decode cL_law 979 = .ok (.iload 5, 2) := by decide +kernel
theorem dL_law_981 : decode cL_law 981 = .ok (.if_icmp .eq 5, 3) := by decide +kernel
theorem dL_law_984 : decode cL_law 984 = .ok (.iconst 0, 1) := by decide +kernel
theorem dL_law_985 : decode cL_law 985 = .ok (.ireturn, 1) := by decide +kernel
theorem dL_law_986 : decode cL_law 986 = .ok (.iload 5, 2) := by decide +kernel
theorem dL_law_988 : decode cL_law 988 = .ok (.ifCond .ne 15, 3) := by decide +kernel
theorem dL_law_991 : decode cL_law 991 = .ok (.aload_n 3, 1) := by decide +kernel
theorem dL_law_992 : decode cL_law 992 = .ok (.iconst 0, 1) := by decide +kernel
theorem dL_law_993 : decode cL_law 993 = .ok (.laload, 1) := by decide +kernel
theorem dL_law_994 : decode cL_law 994 = .ok (.iload 6, 2) := by decide +kernel
theorem dL_law_996 : decode cL_law 996 = .ok (.i2l, 1) := by decide +kernel
theorem dL_law_997 : decode cL_law 997 = .ok (.lcmp, 1) := by decide +kernel
theorem dL_law_998 : decode cL_law 998 = .ok (.ifCond .eq 5, 3) := by decide +kernel
theorem dL_law_1001 : decode cL_law 1001 = .ok (.iconst 0, 1) := by decide +kernel
theorem dL_law_1002 : decode cL_law 1002 = .ok (.ireturn, 1) := by decide +kernel
theorem dL_law_1003 : decode cL_law 1003 = .ok (.goto 562, 3) := by decide +kernel
theorem dL_law_1006 : decode cL_law 1006 = .ok (.aload_n 1, 1) := by decide +kernel
theorem dL_law_1007 : decode cL_law 1007 = .ok (.invokevirtual 151, 3) := by decide +kernel
theorem dL_law_1010 : decode cL_law 1010 = .ok (.aload_n 2, 1) := by decide +kernel
theorem dL_law_1011 : decode cL_law 1011 = .ok (.invokevirtual 154, 3) := by decide +kernel
theorem dL_law_1014 : decode cL_law 1014 = .ok (.if_icmp .eq 551, 3) := by decide +kernel
theorem dL_law_1017 : decode cL_law 1017 = .ok (.iconst 0, 1) := by decide +kernel
theorem dL_law_1018 : decode cL_law 1018 = .ok (.ireturn, 1) := by decide +kernel
theorem dL_law_1019 : decode cL_law 1019 = .ok (.aload_n 1, 1) := by decide +kernel
theorem dL_law_1020 : decode cL_law 1020 = .ok (.invokevirtual 155, 3) := by decide +kernel
theorem dL_law_1023 : decode cL_law 1023 = .ok (.aload_n 2, 1) := by decide +kernel
theorem dL_law_1024 : decode cL_law 1024 = .ok (.invokevirtual 158, 3) := by decide +kernel
theorem dL_law_1027 : decode cL_law 1027 = .ok (.if_icmp .eq 538, 3) := by decide +kernel
theorem dL_law_1030 : decode cL_law 1030 = .ok (.iconst 0, 1) := by decide +kernel
theorem dL_law_1031 : decode cL_law 1031 = .ok (.ireturn, 1) := by decide +kernel
theorem dL_law_1032 : decode cL_law 1032 = .ok (.aload_n 1, 1) := by decide +kernel
theorem dL_law_1033 : decode cL_law 1033 = .ok (.invokevirtual 159, 3) := by decide +kernel
theorem dL_law_1036 : decode cL_law 1036 = .ok (.aload_n 2, 1) := by decide +kernel
theorem dL_law_1037 : decode cL_law 1037 = .ok (.invokevirtual 162, 3) := by decide +kernel
theorem dL_law_1040 : decode cL_law 1040 = .ok (.if_icmp .eq 525, 3) := by decide +kernel
theorem dL_law_1043 : decode cL_law 1043 = .ok (.iconst 0, 1) := by decide +kernel
theorem dL_law_1044 : decode cL_law 1044 = .ok (.ireturn, 1) := by decide +kernel
theorem dL_law_1045 : decode cL_law 1045 = .ok (.aload_n 1, 1) := by decide +kernel
theorem dL_law_1046 : decode cL_law 1046 = .ok (.aload_n 0, 1) := by decide +kernel
theorem dL_law_1047 : decode cL_law 1047 = .ok (.iload 4, 2) := by decide +kernel
theorem dL_law_1049 : decode cL_law 1049 = .ok (.iconst 1, 1) := by decide +kernel
theorem dL_law_1050 : decode cL_law 1050 = .ok (.iadd, 1) := by decide +kernel
theorem dL_law_1051 : decode cL_law 1051 = .ok (.iaload, 1) := by decide +kernel
theorem dL_law_1052 : decode cL_law 1052 = .ok (.aload_n 3, 1) := by decide +kernel
theorem dL_law_1053 : decode cL_law 1053 = .ok (.invokestatic 163, 3) := by decide +kernel
theorem dL_law_1056 : decode cL_law 1056 = .ok (.istore 5, 2) := by decide +kernel
theorem dL_law_1058 : decode cL_law 1058 = .ok (.aload_n 2, 1) := by decide +kernel
theorem dL_law_1059 : decode cL_law 1059 = .ok (.aload_n 0, 1) := by decide +kernel
theorem dL_law_1060 : decode cL_law 1060 = .ok (.iload 4, 2) := by decide +kernel
theorem dL_law_1062 : decode cL_law 1062 = .ok (.iconst 1, 1) := by decide +kernel
theorem dL_law_1063 : decode cL_law 1063 = .ok (.iadd, 1) := by decide +kernel
theorem dL_law_1064 : decode cL_law 1064 = .ok (.iaload, 1) := by decide +kernel
theorem dL_law_1065 : decode cL_law 1065 = .ok (.invokevirtual 165, 3) := by decide +kernel
theorem dL_law_1068 : decode cL_law 1068 = .ok (.istore 6, 2) := by decide +kernel
theorem dL_law_1070 : decode cL_law 1070 = .ok (.aload_n 2, 1) := by decide +kernel
theorem dL_law_1071 : decode cL_law 1071 = .ok (.invokevirtual 87, 3) := by decide +kernel
theorem dL_law_1074 : decode cL_law 1074 = .ok (.iload 5, 2) := by decide +kernel
theorem dL_law_1076 : decode cL_law 1076 = .ok (.if_icmp .eq 5, 3) := by decide +kernel
theorem dL_law_1079 : decode cL_law 1079 = .ok (.iconst 0, 1) := by decide +kernel
theorem dL_law_1080 : decode cL_law 1080 = .ok (.ireturn, 1) := by decide +kernel
theorem dL_law_1081 : decode cL_law 1081 = .ok (.iload 5, 2) := by decide +kernel
theorem dL_law_1083 : decode cL_law 1083 = .ok (.ifCond .ne 15, 3) := by decide +kernel
theorem dL_law_1086 : decode cL_law 1086 = .ok (.aload_n 3, 1) := by decide +kernel
theorem dL_law_1087 : decode cL_law 1087 = .ok (.iconst 0, 1) := by decide +kernel
theorem dL_law_1088 : decode cL_law 1088 = .ok (.laload, 1) := by decide +kernel
theorem dL_law_1089 : decode cL_law 1089 = .ok (.iload 6, 2) := by decide +kernel
theorem dL_law_1091 : decode cL_law 1091 = .ok (.i2l, 1) := by decide +kernel
theorem dL_law_1092 : decode cL_law 1092 = .ok (.lcmp, 1) := by decide +kernel
theorem dL_law_1093 : decode cL_law 1093 = .ok (.ifCond .eq 5, 3) := by decide +kernel
theorem dL_law_1096 : decode cL_law 1096 = .ok (.iconst 0, 1) := by decide +kernel
theorem dL_law_1097 : decode cL_law 1097 = .ok (.ireturn, 1) := by decide +kernel
theorem dL_law_1098 : decode cL_law 1098 = .ok (.goto 467, 3) := by decide +kernel
theorem dL_law_1101 : decode cL_law 1101 = .ok (.aload_n 1, 1) := by decide +kernel
theorem dL_law_1102 : decode cL_law 1102 = .ok (.aload_n 0, 1) := by decide +kernel
theorem dL_law_1103 : decode cL_law 1103 = .ok (.iload 4, 2) := by decide +kernel
theorem dL_law_1105 : decode cL_law 1105 = .ok (.iconst 1, 1) := by decide +kernel
theorem dL_law_1106 : decode cL_law 1106 = .ok (.iadd, 1) := by decide +kernel
theorem dL_law_1107 : decode cL_law 1107 = .ok (.iaload, 1) := by decide +kernel
theorem dL_law_1108 : decode cL_law 1108 = .ok (.aload_n 3, 1) := by decide +kernel
theorem dL_law_1109 : decode cL_law 1109 = .ok (.invokestatic 166, 3) := by decide +kernel
theorem dL_law_1112 : decode cL_law 1112 = .ok (.istore 5, 2) := by decide +kernel
theorem dL_law_1114 : decode cL_law 1114 = .ok (.aload_n 2, 1) := by decide +kernel
theorem dL_law_1115 : decode cL_law 1115 = .ok (.aload_n 0, 1) := by decide +kernel
theorem dL_law_1116 : decode cL_law 1116 = .ok (.iload 4, 2) := by decide +kernel
theorem dL_law_1118 : decode cL_law 1118 = .ok (.iconst 1, 1) := by decide +kernel
theorem dL_law_1119 : decode cL_law 1119 = .ok (.iadd, 1) := by decide +kernel
theorem dL_law_1120 : decode cL_law 1120 = .ok (.iaload, 1) := by decide +kernel
theorem dL_law_1121 : decode cL_law 1121 = .ok (.invokevirtual 168, 3) := by decide +kernel
theorem dL_law_1124 : decode cL_law 1124 = .ok (.istore 6, 2) := by decide +kernel
theorem dL_law_1126 : decode cL_law 1126 = .ok (.aload_n 2, 1) := by decide +kernel
theorem dL_law_1127 : decode cL_law 1127 = .ok (.invokevirtual 87, 3) := by decide +kernel
theorem dL_law_1130 : decode cL_law 1130 = .ok (.iload 5, 2) := by decide +kernel
theorem dL_law_1132 : decode cL_law 1132 = .ok (.if_icmp .eq 5, 3) := by decide +kernel
theorem dL_law_1135 : decode cL_law 1135 = .ok (.iconst 0, 1) := by decide +kernel
theorem dL_law_1136 : decode cL_law 1136 = .ok (.ireturn, 1) := by decide +kernel
theorem dL_law_1137 : decode cL_law 1137 = .ok (.iload 5, 2) := by decide +kernel
theorem dL_law_1139 : decode cL_law 1139 = .ok (.ifCond .ne 15, 3) := by decide +kernel
theorem dL_law_1142 : decode cL_law 1142 = .ok (.aload_n 3, 1) := by decide +kernel
theorem dL_law_1143 : decode cL_law 1143 = .ok (.iconst 0, 1) := by decide +kernel
theorem dL_law_1144 : decode cL_law 1144 = .ok (.laload, 1) := by decide +kernel
theorem dL_law_1145 : decode cL_law 1145 = .ok (.iload 6, 2) := by decide +kernel
theorem dL_law_1147 : decode cL_law 1147 = .ok (.i2l, 1) := by decide +kernel
theorem dL_law_1148 : decode cL_law 1148 = .ok (.lcmp, 1) := by decide +kernel
theorem dL_law_1149 : decode cL_law 1149 = .ok (.ifCond .eq 5, 3) := by decide +kernel
theorem dL_law_1152 : decode cL_law 1152 = .ok (.iconst 0, 1) := by decide +kernel
theorem dL_law_1153 : decode cL_law 1153 = .ok (.ireturn, 1) := by decide +kernel
theorem dL_law_1154 : decode cL_law 1154 = .ok (.goto 411, 3) := by decide +kernel
theorem dL_law_1157 : decode cL_law 1157 = .ok (.aload_n 1, 1) := by decide +kernel
theorem dL_law_1158 : decode cL_law 1158 = .ok (.invokevirtual 169, 3) := by decide +kernel
theorem dL_law_1161 : decode cL_law 1161 = .ok (.aload_n 2, 1) := by decide +kernel
theorem dL_law_1162 : decode cL_law 1162 = .ok (.invokevirtual 172, 3) := by decide +kernel
theorem dL_law_1165 : decode cL_law 1165 = .ok (.if_icmp .eq 400, 3) := by decide +kernel
theorem dL_law_1168 : decode cL_law 1168 = .ok (.iconst 0, 1) := by decide +kernel
theorem dL_law_1169 : decode cL_law 1169 = .ok (.ireturn, 1) := by decide +kernel
theorem dL_law_1170 : decode cL_law 1170 = .ok (.aload_n 1, 1) := by decide +kernel
theorem dL_law_1171 : decode cL_law 1171 = .ok (.aload_n 0, 1) := by decide +kernel
theorem dL_law_1172 : decode cL_law 1172 = .ok (.iload 4, 2) := by decide +kernel
theorem dL_law_1174 : decode cL_law 1174 = .ok (.iconst 1, 1) := by decide +kernel
theorem dL_law_1175 : decode cL_law 1175 = .ok (.iadd, 1) := by decide +kernel
theorem dL_law_1176 : decode cL_law 1176 = .ok (.iaload, 1) := by decide +kernel
theorem dL_law_1177 : decode cL_law 1177 = .ok (.aload_n 3, 1) := by decide +kernel
theorem dL_law_1178 : decode cL_law 1178 = .ok (.invokestatic 173, 3) := by decide +kernel
theorem dL_law_1181 : decode cL_law 1181 = .ok (.istore 5, 2) := by decide +kernel
theorem dL_law_1183 : decode cL_law 1183 = .ok (.aload_n 2, 1) := by decide +kernel
theorem dL_law_1184 : decode cL_law 1184 = .ok (.aload_n 0, 1) := by decide +kernel
theorem dL_law_1185 : decode cL_law 1185 = .ok (.iload 4, 2) := by decide +kernel
theorem dL_law_1187 : decode cL_law 1187 = .ok (.iconst 1, 1) := by decide +kernel
theorem dL_law_1188 : decode cL_law 1188 = .ok (.iadd, 1) := by decide +kernel
theorem dL_law_1189 : decode cL_law 1189 = .ok (.iaload, 1) := by decide +kernel
theorem dL_law_1190 : decode cL_law 1190 = .ok (.invokevirtual 175, 3) := by decide +kernel
theorem dL_law_1193 : decode cL_law 1193 = .ok (.istore 6, 2) := by decide +kernel
theorem dL_law_1195 : decode cL_law 1195 = .ok (.aload_n 2, 1) := by decide +kernel
theorem dL_law_1196 : decode cL_law 1196 = .ok (.invokevirtual 87, 3) := by decide +kernel
theorem dL_law_1199 : decode cL_law 1199 = .ok (.iload 5, 2) := by decide +kernel
theorem dL_law_1201 : decode cL_law 1201 = .ok (.if_icmp .eq 5, 3) := by decide +kernel
theorem dL_law_1204 : decode cL_law 1204 = .ok (.iconst 0, 1) := by decide +kernel
theorem dL_law_1205 : decode cL_law 1205 = .ok (.ireturn, 1) := by decide +kernel
theorem dL_law_1206 : decode cL_law 1206 = .ok (.iload 5, 2) := by decide +kernel
theorem dL_law_1208 : decode cL_law 1208 = .ok (.ifCond .ne 15, 3) := by decide +kernel
theorem dL_law_1211 : decode cL_law 1211 = .ok (.aload_n 3, 1) := by decide +kernel
theorem dL_law_1212 : decode cL_law 1212 = .ok (.iconst 0, 1) := by decide +kernel
theorem dL_law_1213 : decode cL_law 1213 = .ok (.laload, 1) := by decide +kernel
theorem dL_law_1214 : decode cL_law 1214 = .ok (.iload 6, 2) := by decide +kernel
theorem dL_law_1216 : decode cL_law 1216 = .ok (.i2l, 1) := by decide +kernel
theorem dL_law_1217 : decode cL_law 1217 = .ok (.lcmp, 1) := by decide +kernel
theorem dL_law_1218 : decode cL_law 1218 = .ok (.ifCond .eq 5, 3) := by decide +kernel
theorem dL_law_1221 : decode cL_law 1221 = .ok (.iconst 0, 1) := by decide +kernel
theorem dL_law_1222 : decode cL_law 1222 = .ok (.ireturn, 1) := by decide +kernel
theorem dL_law_1223 : decode cL_law 1223 = .ok (.goto 342, 3) := by decide +kernel
theorem dL_law_1226 : decode cL_law 1226 = .ok (.aload_n 1, 1) := by decide +kernel
theorem dL_law_1227 : decode cL_law 1227 = .ok (.aload_n 0, 1) := by decide +kernel
theorem dL_law_1228 : decode cL_law 1228 = .ok (.iload 4, 2) := by decide +kernel
theorem dL_law_1230 : decode cL_law 1230 = .ok (.iconst 1, 1) := by decide +kernel
theorem dL_law_1231 : decode cL_law 1231 = .ok (.iadd, 1) := by decide +kernel
theorem dL_law_1232 : decode cL_law 1232 = .ok (.iaload, 1) := by decide +kernel
theorem dL_law_1233 : decode cL_law 1233 = .ok (.aload_n 3, 1) := by decide +kernel
theorem dL_law_1234 : decode cL_law 1234 = .ok (.invokestatic 176, 3) := by decide +kernel
theorem dL_law_1237 : decode cL_law 1237 = .ok (.istore 5, 2) := by decide +kernel
theorem dL_law_1239 : decode cL_law 1239 = .ok (.aload_n 2, 1) := by decide +kernel
theorem dL_law_1240 : decode cL_law 1240 = .ok (.aload_n 0, 1) := by decide +kernel
theorem dL_law_1241 : decode cL_law 1241 = .ok (.iload 4, 2) := by decide +kernel
theorem dL_law_1243 : decode cL_law 1243 = .ok (.iconst 1, 1) := by decide +kernel
theorem dL_law_1244 : decode cL_law 1244 = .ok (.iadd, 1) := by decide +kernel
theorem dL_law_1245 : decode cL_law 1245 = .ok (.iaload, 1) := by decide +kernel
theorem dL_law_1246 : decode cL_law 1246 = .ok (.invokevirtual 178, 3) := by decide +kernel
theorem dL_law_1249 : decode cL_law 1249 = .ok (.istore 6, 2) := by decide +kernel
theorem dL_law_1251 : decode cL_law 1251 = .ok (.aload_n 2, 1) := by decide +kernel
theorem dL_law_1252 : decode cL_law 1252 = .ok (.invokevirtual 87, 3) := by decide +kernel
theorem dL_law_1255 : decode cL_law 1255 = .ok (.iload 5, 2) := by decide +kernel
theorem dL_law_1257 : decode cL_law 1257 = .ok (.if_icmp .eq 5, 3) := by decide +kernel
theorem dL_law_1260 : decode cL_law 1260 = .ok (.iconst 0, 1) := by decide +kernel
theorem dL_law_1261 : decode cL_law 1261 = .ok (.ireturn, 1) := by decide +kernel
theorem dL_law_1262 : decode cL_law 1262 = .ok (.iload 5, 2) := by decide +kernel
theorem dL_law_1264 : decode cL_law 1264 = .ok (.ifCond .ne 15, 3) := by decide +kernel
theorem dL_law_1267 : decode cL_law 1267 = .ok (.aload_n 3, 1) := by decide +kernel
theorem dL_law_1268 : decode cL_law 1268 = .ok (.iconst 0, 1) := by decide +kernel
theorem dL_law_1269 : decode cL_law 1269 = .ok (.laload, 1) := by decide +kernel
theorem dL_law_1270 : decode cL_law 1270 = .ok (.iload 6, 2) := by decide +kernel
theorem dL_law_1272 : decode cL_law 1272 = .ok (.i2l, 1) := by decide +kernel
theorem dL_law_1273 : decode cL_law 1273 = .ok (.lcmp, 1) := by decide +kernel
theorem dL_law_1274 : decode cL_law 1274 = .ok (.ifCond .eq 5, 3) := by decide +kernel
theorem dL_law_1277 : decode cL_law 1277 = .ok (.iconst 0, 1) := by decide +kernel
theorem dL_law_1278 : decode cL_law 1278 = .ok (.ireturn, 1) := by decide +kernel
theorem dL_law_1279 : decode cL_law 1279 = .ok (.goto 286, 3) := by decide +kernel
theorem dL_law_1282 : decode cL_law 1282 = .ok (.aload_n 1, 1) := by decide +kernel
theorem dL_law_1283 : decode cL_law 1283 = .ok (.aload_n 0, 1) := by decide +kernel
theorem dL_law_1284 : decode cL_law 1284 = .ok (.iload 4, 2) := by decide +kernel
theorem dL_law_1286 : decode cL_law 1286 = .ok (.iconst 1, 1) := by decide +kernel
theorem dL_law_1287 : decode cL_law 1287 = .ok (.iadd, 1) := by decide +kernel
theorem dL_law_1288 : decode cL_law 1288 = .ok (.iaload, 1) := by decide +kernel
theorem dL_law_1289 : decode cL_law 1289 = .ok (.aload_n 0, 1) := by decide +kernel
theorem dL_law_1290 : decode cL_law 1290 = .ok (.iload 4, 2) := by decide +kernel
theorem dL_law_1292 : decode cL_law 1292 = .ok (.iconst 2, 1) := by decide +kernel
theorem dL_law_1293 : decode cL_law 1293 = .ok (.iadd, 1) := by decide +kernel
theorem dL_law_1294 : decode cL_law 1294 = .ok (.iaload, 1) := by decide +kernel
theorem dL_law_1295 : decode cL_law 1295 = .ok (.ifCond .eq 7, 3) := by decide +kernel
theorem dL_law_1298 : decode cL_law 1298 = .ok (.iconst 1, 1) := by decide +kernel
theorem dL_law_1299 : decode cL_law 1299 = .ok (.goto 4, 3) := by decide +kernel
theorem dL_law_1302 : decode cL_law 1302 = .ok (.iconst 0, 1) := by decide +kernel
theorem dL_law_1303 : decode cL_law 1303 = .ok (.aload_n 3, 1) := by decide +kernel
theorem dL_law_1304 : decode cL_law 1304 = .ok (.invokestatic 179, 3) := by decide +kernel
theorem dL_law_1307 : decode cL_law 1307 = .ok (.istore 5, 2) := by decide +kernel
theorem dL_law_1309 : decode cL_law 1309 = .ok (.aload_n 2, 1) := by decide +kernel
theorem dL_law_1310 : decode cL_law 1310 = .ok (.aload_n 0, 1) := by decide +kernel
theorem dL_law_1311 : decode cL_law 1311 = .ok (.iload 4, 2) := by decide +kernel
theorem dL_law_1313 : decode cL_law 1313 = .ok (.iconst 1, 1) := by decide +kernel
theorem dL_law_1314 : decode cL_law 1314 = .ok (.iadd, 1) := by decide +kernel
theorem dL_law_1315 : decode cL_law 1315 = .ok (.iaload, 1) := by decide +kernel
theorem dL_law_1316 : decode cL_law 1316 = .ok (.aload_n 0, 1) := by decide +kernel
theorem dL_law_1317 : decode cL_law 1317 = .ok (.iload 4, 2) := by decide +kernel
theorem dL_law_1319 : decode cL_law 1319 = .ok (.iconst 2, 1) := by decide +kernel
theorem dL_law_1320 : decode cL_law 1320 = .ok (.iadd, 1) := by decide +kernel
theorem dL_law_1321 : decode cL_law 1321 = .ok (.iaload, 1) := by decide +kernel
theorem dL_law_1322 : decode cL_law 1322 = .ok (.ifCond .eq 7, 3) := by decide +kernel
theorem dL_law_1325 : decode cL_law 1325 = .ok (.iconst 1, 1) := by decide +kernel
theorem dL_law_1326 : decode cL_law 1326 = .ok (.goto 4, 3) := by decide +kernel
theorem dL_law_1329 : decode cL_law 1329 = .ok (.iconst 0, 1) := by decide +kernel
theorem dL_law_1330 : decode cL_law 1330 = .ok (.invokevirtual 182, 3) := by decide +kernel
theorem dL_law_1333 : decode cL_law 1333 = .ok (.istore 6, 2) := by decide +kernel
theorem dL_law_1335 : decode cL_law 1335 = .ok (.aload_n 2, 1) := by decide +kernel
theorem dL_law_1336 : decode cL_law 1336 = .ok (.invokevirtual 87, 3) := by decide +kernel
theorem dL_law_1339 : decode cL_law 1339 = .ok (.iload 5, 2) := by decide +kernel
theorem dL_law_1341 : decode cL_law 1341 = .ok (.if_icmp .eq 5, 3) := by decide +kernel
theorem dL_law_1344 : decode cL_law 1344 = .ok (.iconst 0, 1) := by decide +kernel
theorem dL_law_1345 : decode cL_law 1345 = .ok (.ireturn, 1) := by decide +kernel
theorem dL_law_1346 : decode cL_law 1346 = .ok (.iload 5, 2) := by decide +kernel
theorem dL_law_1348 : decode cL_law 1348 = .ok (.ifCond .ne 15, 3) := by decide +kernel
theorem dL_law_1351 : decode cL_law 1351 = .ok (.aload_n 3, 1) := by decide +kernel
theorem dL_law_1352 : decode cL_law 1352 = .ok (.iconst 0, 1) := by decide +kernel
theorem dL_law_1353 : decode cL_law 1353 = .ok (.laload, 1) := by decide +kernel
theorem dL_law_1354 : decode cL_law 1354 = .ok (.iload 6, 2) := by decide +kernel
theorem dL_law_1356 : decode cL_law 1356 = .ok (.i2l, 1) := by decide +kernel
theorem dL_law_1357 : decode cL_law 1357 = .ok (.lcmp, 1) := by decide +kernel
theorem dL_law_1358 : decode cL_law 1358 = .ok (.ifCond .eq 5, 3) := by decide +kernel
theorem dL_law_1361 : decode cL_law 1361 = .ok (.iconst 0, 1) := by decide +kernel
theorem dL_law_1362 : decode cL_law 1362 = .ok (.ireturn, 1) := by decide +kernel
theorem dL_law_1363 : decode cL_law 1363 = .ok (.goto 202, 3) := by decide +kernel
theorem dL_law_1366 : decode cL_law 1366 = .ok (.aload_n 1, 1) := by decide +kernel
theorem dL_law_1367 : decode cL_law 1367 = .ok (.invokevirtual 183, 3) := by decide +kernel
theorem dL_law_1370 : decode cL_law 1370 = .ok (.aload_n 2, 1) := by decide +kernel
theorem dL_law_1371 : decode cL_law 1371 = .ok (.invokevirtual 186, 3) := by decide +kernel
theorem dL_law_1374 : decode cL_law 1374 = .ok (.if_icmp .eq 191, 3) := by decide +kernel
theorem dL_law_1377 : decode cL_law 1377 = .ok (.iconst 0, 1) := by decide +kernel
theorem dL_law_1378 : decode cL_law 1378 = .ok (.ireturn, 1) := by decide +kernel
theorem dL_law_1379 : decode cL_law 1379 = .ok (.aload_n 1, 1) := by decide +kernel
theorem dL_law_1380 : decode cL_law 1380 = .ok (.aload_n 0, 1) := by decide +kernel
theorem dL_law_1381 : decode cL_law 1381 = .ok (.iload 4, 2) := by decide +kernel
theorem dL_law_1383 : decode cL_law 1383 = .ok (.iconst 1, 1) := by decide +kernel
theorem dL_law_1384 : decode cL_law 1384 = .ok (.iadd, 1) := by decide +kernel
theorem dL_law_1385 : decode cL_law 1385 = .ok (.iaload, 1) := by decide +kernel
theorem dL_law_1386 : decode cL_law 1386 = .ok (.aload_n 0, 1) := by decide +kernel
theorem dL_law_1387 : decode cL_law 1387 = .ok (.iload 4, 2) := by decide +kernel
theorem dL_law_1389 : decode cL_law 1389 = .ok (.iconst 2, 1) := by decide +kernel
theorem dL_law_1390 : decode cL_law 1390 = .ok (.iadd, 1) := by decide +kernel
theorem dL_law_1391 : decode cL_law 1391 = .ok (.iaload, 1) := by decide +kernel
theorem dL_law_1392 : decode cL_law 1392 = .ok (.aload_n 3, 1) := by decide +kernel
theorem dL_law_1393 : decode cL_law 1393 = .ok (.invokestatic 187, 3) := by decide +kernel
theorem dL_law_1396 : decode cL_law 1396 = .ok (.istore 5, 2) := by decide +kernel
theorem dL_law_1398 : decode cL_law 1398 = .ok (.aload_n 2, 1) := by decide +kernel
theorem dL_law_1399 : decode cL_law 1399 = .ok (.aload_n 0, 1) := by decide +kernel
theorem dL_law_1400 : decode cL_law 1400 = .ok (.iload 4, 2) := by decide +kernel
theorem dL_law_1402 : decode cL_law 1402 = .ok (.iconst 1, 1) := by decide +kernel
theorem dL_law_1403 : decode cL_law 1403 = .ok (.iadd, 1) := by decide +kernel
theorem dL_law_1404 : decode cL_law 1404 = .ok (.iaload, 1) := by decide +kernel
theorem dL_law_1405 : decode cL_law 1405 = .ok (.aload_n 0, 1) := by decide +kernel
theorem dL_law_1406 : decode cL_law 1406 = .ok (.iload 4, 2) := by decide +kernel
theorem dL_law_1408 : decode cL_law 1408 = .ok (.iconst 2, 1) := by decide +kernel
theorem dL_law_1409 : decode cL_law 1409 = .ok (.iadd, 1) := by decide +kernel
theorem dL_law_1410 : decode cL_law 1410 = .ok (.iaload, 1) := by decide +kernel
theorem dL_law_1411 : decode cL_law 1411 = .ok (.invokevirtual 189, 3) := by decide +kernel
theorem dL_law_1414 : decode cL_law 1414 = .ok (.istore 6, 2) := by decide +kernel
theorem dL_law_1416 : decode cL_law 1416 = .ok (.aload_n 2, 1) := by decide +kernel
theorem dL_law_1417 : decode cL_law 1417 = .ok (.invokevirtual 87, 3) := by decide +kernel
theorem dL_law_1420 : decode cL_law 1420 = .ok (.iload 5, 2) := by decide +kernel
theorem dL_law_1422 : decode cL_law 1422 = .ok (.if_icmp .eq 5, 3) := by decide +kernel
theorem dL_law_1425 : decode cL_law 1425 = .ok (.iconst 0, 1) := by decide +kernel
theorem dL_law_1426 : decode cL_law 1426 = .ok (.ireturn, 1) := by decide +kernel
theorem dL_law_1427 : decode cL_law 1427 = .ok (.iload 5, 2) := by decide +kernel
theorem dL_law_1429 : decode cL_law 1429 = .ok (.ifCond .ne 22, 3) := by decide +kernel
theorem dL_law_1432 : decode cL_law 1432 = .ok (.aload_n 3, 1) := by decide +kernel
theorem dL_law_1433 : decode cL_law 1433 = .ok (.iconst 0, 1) := by decide +kernel
theorem dL_law_1434 : decode cL_law 1434 = .ok (.laload, 1) := by decide +kernel
theorem dL_law_1435 : decode cL_law 1435 = .ok (.iload 6, 2) := by decide +kernel
theorem dL_law_1437 : decode cL_law 1437 = .ok (.ifCond .eq 7, 3) := by decide +kernel
theorem dL_law_1440 : decode cL_law 1440 = .ok (.lconst 1, 1) := by decide +kernel
theorem dL_law_1441 : decode cL_law 1441 = .ok (.goto 4, 3) := by decide +kernel
theorem dL_law_1444 : decode cL_law 1444 = .ok (.lconst 0, 1) := by decide +kernel
theorem dL_law_1445 : decode cL_law 1445 = .ok (.lcmp, 1) := by decide +kernel
theorem dL_law_1446 : decode cL_law 1446 = .ok (.ifCond .eq 5, 3) := by decide +kernel
theorem dL_law_1449 : decode cL_law 1449 = .ok (.iconst 0, 1) := by decide +kernel
theorem dL_law_1450 : decode cL_law 1450 = .ok (.ireturn, 1) := by decide +kernel
theorem dL_law_1451 : decode cL_law 1451 = .ok (.goto 114, 3) := by decide +kernel
theorem dL_law_1454 : decode cL_law 1454 = .ok (.aload_n 1, 1) := by decide +kernel
theorem dL_law_1455 : decode cL_law 1455 = .ok (.aload_n 0, 1) := by decide +kernel
theorem dL_law_1456 : decode cL_law 1456 = .ok (.iload 4, 2) := by decide +kernel
theorem dL_law_1458 : decode cL_law 1458 = .ok (.iconst 1, 1) := by decide +kernel
theorem dL_law_1459 : decode cL_law 1459 = .ok (.iadd, 1) := by decide +kernel
theorem dL_law_1460 : decode cL_law 1460 = .ok (.iaload, 1) := by decide +kernel
theorem dL_law_1461 : decode cL_law 1461 = .ok (.aload_n 3, 1) := by decide +kernel
theorem dL_law_1462 : decode cL_law 1462 = .ok (.invokestatic 190, 3) := by decide +kernel
theorem dL_law_1465 : decode cL_law 1465 = .ok (.istore 5, 2) := by decide +kernel
theorem dL_law_1467 : decode cL_law 1467 = .ok (.aload_n 2, 1) := by decide +kernel
theorem dL_law_1468 : decode cL_law 1468 = .ok (.aload_n 0, 1) := by decide +kernel
theorem dL_law_1469 : decode cL_law 1469 = .ok (.iload 4, 2) := by decide +kernel
theorem dL_law_1471 : decode cL_law 1471 = .ok (.iconst 1, 1) := by decide +kernel
theorem dL_law_1472 : decode cL_law 1472 = .ok (.iadd, 1) := by decide +kernel
theorem dL_law_1473 : decode cL_law 1473 = .ok (.iaload, 1) := by decide +kernel
theorem dL_law_1474 : decode cL_law 1474 = .ok (.invokevirtual 192, 3) := by decide +kernel
theorem dL_law_1477 : decode cL_law 1477 = .ok (.istore 6, 2) := by decide +kernel
theorem dL_law_1479 : decode cL_law 1479 = .ok (.aload_n 2, 1) := by decide +kernel
theorem dL_law_1480 : decode cL_law 1480 = .ok (.invokevirtual 87, 3) := by decide +kernel
theorem dL_law_1483 : decode cL_law 1483 = .ok (.iload 5, 2) := by decide +kernel
theorem dL_law_1485 : decode cL_law 1485 = .ok (.if_icmp .eq 5, 3) := by decide +kernel
theorem dL_law_1488 : decode cL_law 1488 = .ok (.iconst 0, 1) := by decide +kernel
theorem dL_law_1489 : decode cL_law 1489 = .ok (.ireturn, 1) := by decide +kernel
theorem dL_law_1490 : decode cL_law 1490 = .ok (.iload 5, 2) := by decide +kernel
theorem dL_law_1492 : decode cL_law 1492 = .ok (.ifCond .ne 15, 3) := by decide +kernel
theorem dL_law_1495 : decode cL_law 1495 = .ok (.aload_n 3, 1) := by decide +kernel
theorem dL_law_1496 : decode cL_law 1496 = .ok (.iconst 0, 1) := by decide +kernel
theorem dL_law_1497 : decode cL_law 1497 = .ok (.laload, 1) := by decide +kernel
theorem dL_law_1498 : decode cL_law 1498 = .ok (.iload 6, 2) := by decide +kernel
theorem dL_law_1500 : decode cL_law 1500 = .ok (.i2l, 1) := by decide +kernel
theorem dL_law_1501 : decode cL_law 1501 = .ok (.lcmp, 1) := by decide +kernel
theorem dL_law_1502 : decode cL_law 1502 = .ok (.ifCond .eq 5, 3) := by decide +kernel
theorem dL_law_1505 : decode cL_law 1505 = .ok (.iconst 0, 1) := by decide +kernel
theorem dL_law_1506 : decode cL_law 1506 = .ok (.ireturn, 1) := by decide +kernel
theorem dL_law_1507 : decode cL_law 1507 = .ok (.goto 58, 3) := by decide +kernel
theorem dL_law_1510 : decode cL_law 1510 = .ok (.aload_n 1, 1) := by decide +kernel
theorem dL_law_1511 : decode cL_law 1511 = .ok (.invokevirtual 193, 3) := by decide +kernel
theorem dL_law_1514 : decode cL_law 1514 = .ok (.dstore 5, 2) := by decide +kernel
theorem dL_law_1516 : decode cL_law 1516 = .ok (.aload_n 2, 1) := by decide +kernel
theorem dL_law_1517 : decode cL_law 1517 = .ok (.invokevirtual 197, 3) := by decide +kernel
theorem dL_law_1520 : decode cL_law 1520 = .ok (.dstore 7, 2) := by decide +kernel
theorem dL_law_1522 : decode cL_law 1522 = .ok (.dload 5, 2) := by decide +kernel
theorem dL_law_1524 : decode cL_law 1524 = .ok (.dload 7, 2) := by decide +kernel
theorem dL_law_1526 : decode cL_law 1526 = .ok (.dcmp .l, 1) := by decide +kernel
theorem dL_law_1527 : decode cL_law 1527 = .ok (.ifCond .eq 21, 3) := by decide +kernel
theorem dL_law_1530 : decode cL_law 1530 = .ok (.dload 5, 2) := by decide +kernel
theorem dL_law_1532 : decode cL_law 1532 = .ok (.dload 5, 2) := by decide +kernel
theorem dL_law_1534 : decode cL_law 1534 = .ok (.dcmp .l, 1) := by decide +kernel
theorem dL_law_1535 : decode cL_law 1535 = .ok (.ifCond .eq 11, 3) := by decide +kernel
theorem dL_law_1538 : decode cL_law 1538 = .ok (.dload 7, 2) := by decide +kernel
theorem dL_law_1540 : decode cL_law 1540 = .ok (.dload 7, 2) := by decide +kernel
theorem dL_law_1542 : decode cL_law 1542 = .ok (.dcmp .l, 1) := by decide +kernel
theorem dL_law_1543 : decode cL_law 1543 = .ok (.ifCond .ne 5, 3) := by decide +kernel
theorem dL_law_1546 : decode cL_law 1546 = .ok (.iconst 0, 1) := by decide +kernel
theorem dL_law_1547 : decode cL_law 1547 = .ok (.ireturn, 1) := by decide +kernel
theorem dL_law_1548 : decode cL_law 1548 = .ok (.goto 17, 3) := by decide +kernel
theorem dL_law_1551 : decode cL_law 1551 = .ok (.aload_n 1, 1) := by decide +kernel
theorem dL_law_1552 : decode cL_law 1552 = .ok (.invokevirtual 198, 3) := by decide +kernel
theorem dL_law_1555 : decode cL_law 1555 = .ok (.aload_n 2, 1) := by decide +kernel
theorem dL_law_1556 : decode cL_law 1556 = .ok (.invokevirtual 202, 3) := by decide +kernel
theorem dL_law_1559 : decode cL_law 1559 = .ok (.lcmp, 1) := by decide +kernel
theorem dL_law_1560 : decode cL_law 1560 = .ok (.ifCond .eq 5, 3) := by decide +kernel
theorem dL_law_1563 : decode cL_law 1563 = .ok (.iconst 0, 1) := by decide +kernel
theorem dL_law_1564 : decode cL_law 1564 = .ok (.ireturn, 1) := by decide +kernel
theorem dL_law_1565 : decode cL_law 1565 = .ok (.iinc 4 4, 3) := by decide +kernel
theorem dL_law_1568 : decode cL_law 1568 = .ok (.goto (-1545), 3) := by decide +kernel
theorem dL_law_1571 : decode cL_law 1571 = .ok (.iconst 1, 1) := by decide +kernel
theorem dL_law_1572 : decode cL_law 1572 = .ok (.ireturn, 1) := by decide +kernel
abbrev vwCl : List vw_C := [(RX0, TX0, 16), (RX1, TX1, 2), (RX2, TX2, 12)]
/-! ===== END printed: names ===== -/
end
section
theorem zz_one : 1 = 1 := rfl
end
